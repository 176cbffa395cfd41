/**
 * The boundary cases that the document's sentences on chips name, a test for each sentence: the terms
 * on chips, promises 1 to 5 and 18, and the number of calls of an object.
 */
public final class BoundaryChipsTest {
    private static final Due due = new Due("BoundaryChipsTest");
    private static final int[] OUTSIDE = {Integer.MIN_VALUE, Integer.MIN_VALUE + 1, -65536, -256, -1, 65536, Integer.MAX_VALUE - 1, Integer.MAX_VALUE};

    public static void main(String[] args) {
        callsOfAnObject();
        dearCallsOfAnObject();
        upToSixChips();
        placesFromTheInput();
        rangesOfAChip();
        pinsAndOutputsHaveABitForEachCell();
        wholeAtFirst();
        codeRegisterHasTheCodesBits();
        codeRegisterOfANewChip();
        instructionHasTheCodesBits();
        instructionSelectsARegister();
        aBypassIsNoCell();
        shortCodesSelectTheSame();
        givenInstructionEmptiesTheData();
        firstInstruction();
        newChipIsGivenItsFirstInstruction();
        newObject();
        addCodeLength();
        addIdentity();
        addCells();
        addRefusesEvenIdentities();
        addToAFullChain();
        takeMovesUp();
        takeNoSuchChip();
        takeAnswersTheIdentity();
        setPinsRange();
        setPinsIgnoresHighBits();
        setPinsPrevious();
        setPinsNoSuchChip();
        breakChipCounts();
        breakChipAgain();
        breakChipNoSuchChip();
        chipWhat();
        chipLeastAndMost();
        chipNoSuchChip();
        due.end();
    }

    private static void callsOfAnObject() {
        due.sentence("An object is used for at most 512 calls after it has been made");
        ScanChain x = new ScanChain();
        Chains.clocks(x, 511, 1, 1);
        due.same("the 512th call", x.count(3), 511);
        ScanChain y = new ScanChain();
        Chains.clocks(y, 507, 0, 1);
        for (int left = 3; left >= 0; left--) {
            due.same("undo() near the 512th call", y.undo(), left);
        }
        due.same("the 512th call", y.undo(), -4);
    }

    private static void dearCallsOfAnObject() {
        due.sentence("An object is used for at most 512 calls after it has been made");
        ScanChain x = Chains.same(6, 6, 253, 8);
        for (int call = 7; call < 511; call++) {
            x.identify();
        }
        due.same("the 511th call", x.identify(), 6);
        due.same("the 512th call", x.count(3), 505 * (5 + 4 + 6 * 8 + 8 + 3));
    }

    private static void upToSixChips() {
        due.sentence("There are up to 6 chips in a row; their places are numbered from 0");
        ScanChain x = new ScanChain();
        for (int place = 0; place < 6; place++) {
            due.same("add(2, 0, 1) to " + place + " chips", x.add(2, 0, 1), place);
        }
        due.same("add(2, 0, 1) to 6 chips", x.add(2, 0, 1), -3);
        due.same("count(0)", x.count(0), 6);
        due.same("chip(0, 0)", x.chip(0, 0), 2);
        due.same("chip(5, 0)", x.chip(5, 0), 2);
        due.same("chip(6, 0)", x.chip(6, 0), -1);
    }

    private static void placesFromTheInput() {
        due.sentence("beginning with the chip next to the input of the chain");
        ScanChain x = Chains.same(6, 2, 0, 1);
        x.move(4);
        x.clock(0, 1);
        for (int place = 0; place < 6; place++) {
            for (int other = 0; other < 6; other++) {
                due.same("chip(" + other + ", 8) behind " + (place + 1) + " clocks", x.chip(other, 8), other == place ? 1 : 0);
            }
            due.same("the output", x.clock(0, 0), place == 5 ? 1 : 0);
        }
    }

    private static void rangesOfAChip() {
        due.sentence("A chip has a code length (2 to 6), an identity (0 for none, or an odd number from 1 to 253), and cells (1 to 8 of them).");
        for (int codeLength = 1; codeLength <= 7; codeLength++) {
            for (int identity = -2; identity <= 257; identity++) {
                for (int cells = 0; cells <= 9; cells++) {
                    boolean isLength = codeLength != 1 && codeLength != 7;
                    boolean isIdentity = identity == 0 || (identity > 0 && identity < 254 && identity % 2 == 1);
                    boolean isCells = cells != 0 && cells != 9;
                    due.same("add(" + codeLength + ", " + identity + ", " + cells + ")",
                            new ScanChain().add(codeLength, identity, cells), isLength && isIdentity && isCells ? 0 : -2);
                }
            }
        }
    }

    private static void pinsAndOutputsHaveABitForEachCell() {
        due.sentence("It has pins, a number with as many bits as it has cells (0 at first), and outputs, likewise (0 at first).");
        for (int cells = 1; cells <= 8; cells++) {
            ScanChain x = Chains.of(3, 0, cells);
            due.same("the pins of " + cells + " cells at first", x.chip(0, 3), 0);
            due.same("the outputs of " + cells + " cells at first", x.chip(0, 4), 0);
            x.setPins(0, 255);
            due.same("the most pins of " + cells + " cells", x.chip(0, 3), Chains.allOnes(cells));
            x.load(0, 0);
            x.exchange(0, 255);
            due.same("the most outputs of " + cells + " cells", x.chip(0, 4), Chains.allOnes(cells));
            x.exchange(0, 0);
            due.same("the least outputs of " + cells + " cells", x.chip(0, 4), 0);
            x.exchange(0, 255);
            x.take(0);
            x.add(3, 0, cells);
            due.same("the pins of a new chip in another one's place", x.chip(0, 3), 0);
            due.same("the outputs of a new chip in another one's place", x.chip(0, 4), 0);
        }
    }

    private static void wholeAtFirst() {
        due.sentence("It is whole or broken (whole at first).");
        ScanChain x = Chains.of(2, 0, 1);
        due.same("chip(0, 5)", x.chip(0, 5), 0);
        x.breakChip(0, true);
        x.take(0);
        x.add(2, 0, 1);
        due.same("chip(0, 5) of a new chip in a broken one's place", x.chip(0, 5), 0);
        due.same("count(1)", x.count(1), 0);
    }

    private static void codeRegisterHasTheCodesBits() {
        due.sentence("the code register with as many bits as its code length");
        for (int length = 2; length <= 6; length++) {
            ScanChain x = Chains.of(length, 0, 1);
            x.move(11);
            Chains.clocks(x, 8, 0, 1);
            due.same("the most of " + length + " bits", x.chip(0, 7), Chains.allOnes(length));
            Chains.clocks(x, length - 1, 0, 0);
            due.same("the last 1 in it", x.chip(0, 7), 1);
            due.same("the last 1 comes out", x.clock(0, 0), 1);
            due.same("the least of " + length + " bits", x.chip(0, 7), 0);
            due.same("the first 0 comes out", x.clock(0, 0), 0);
        }
    }

    private static void codeRegisterOfANewChip() {
        due.sentence("The code register of a new chip is 0.");
        for (int state = 0; state < 16; state++) {
            ScanChain x = Chains.of(6, 9, 1);
            x.load(0, 63);
            x.take(0);
            x.move(state);
            x.add(6, 9, 1);
            due.same("chip(0, 7) of a chip that is added in the state " + state, x.chip(0, 7), 0);
        }
    }

    private static void instructionHasTheCodesBits() {
        due.sentence("An instruction is a number with as many bits as the code length.");
        for (int length = 2; length <= 6; length++) {
            ScanChain x = Chains.of(length, 9, 1);
            x.load(0, 63);
            due.same("the most of " + length + " bits", x.chip(0, 6), Chains.allOnes(length));
            x.load(0, 1 << length - 1);
            due.same("the highest of " + length + " bits", x.chip(0, 6), 1 << length - 1);
            x.load(0, 0);
            due.same("the least of " + length + " bits", x.chip(0, 6), 0);
        }
    }

    private static void instructionSelectsARegister() {
        due.sentence("with the instruction 0 (drive) and with the instruction 2 (sample) the cells, ...; with the instruction 1, if it has an identity, the identity, with 8 bits; with all other instructions, and with 1 if it has no identity, the bypass, with 1 bit");
        for (int instruction = 0; instruction < 64; instruction++) {
            boolean isCells = instruction == 0 || instruction == 2;
            ScanChain with = Chains.of(6, 253, 5);
            due.same("load(0, " + instruction + ") with an identity", with.load(0, instruction), isCells ? 5 : instruction == 1 ? 8 : 1);
            due.same("chip(0, 9)", with.chip(0, 9), isCells ? 5 : instruction == 1 ? 8 : 1);
            ScanChain without = Chains.of(6, 0, 5);
            due.same("load(0, " + instruction + ") without an identity", without.load(0, instruction), isCells ? 5 : 1);
            due.same("chip(0, 9)", without.chip(0, 9), isCells ? 5 : 1);
        }
    }

    private static void aBypassIsNoCell() {
        due.sentence("the cells, with as many bits as there are cells; ... the bypass, with 1 bit");
        for (int cells = 1; cells <= 8; cells += 7) {
            for (int instruction = 0; instruction <= 3; instruction++) {
                ScanChain x = Chains.of(2, 0, cells);
                x.setPins(0, 255);
                boolean isCells = instruction == 0 || instruction == 2;
                due.same("load(0, " + instruction + ") of " + cells + " cells", x.load(0, instruction), isCells ? cells : 1);
                x.move(3);
                x.clock(0, 1);
                due.same("what the instruction " + instruction + " captures", x.chip(0, 8), isCells ? Chains.allOnes(cells) : 0);
            }
        }
    }

    private static void shortCodesSelectTheSame() {
        due.sentence("If the code length is 2, this holds, too (so 3 selects the bypass).");
        int[] with = {7, 8, 7, 1};
        int[] without = {7, 1, 7, 1};
        for (int instruction = 0; instruction <= 3; instruction++) {
            due.same("load(0, " + instruction + ") with an identity", Chains.of(2, 1, 7).load(0, instruction), with[instruction]);
            due.same("load(0, " + instruction + ") without an identity", Chains.of(2, 0, 7).load(0, instruction), without[instruction]);
        }
    }

    private static void givenInstructionEmptiesTheData() {
        due.sentence("it has this instruction, and its data register (as long as the selected one) becomes 0");
        ScanChain x = Chains.of(3, 9, 8);
        x.load(0, 0);
        x.exchange(0, 255);
        due.same("a full data register", x.chip(0, 8), 255);
        x.move(15);
        due.same("ahead of the clock in the state 15", x.chip(0, 8), 255);
        x.load(0, 0);
        due.same("the same instruction, given again", x.chip(0, 8), 0);
        due.same("its bits", x.chip(0, 9), 8);
        x.exchange(0, 255);
        x.load(0, 7);
        due.same("another instruction", x.chip(0, 8), 0);
        due.same("its bit", x.chip(0, 9), 1);
        x.exchange(0, 1);
        due.same("a full bypass", x.chip(0, 8), 1);
        x.load(0, 7);
        due.same("the bypass, given again", x.chip(0, 8), 0);
        x.load(0, 1);
        x.exchange(0, 255);
        due.same("a full identity register", x.chip(0, 8), 255);
        x.move(0);
        x.clock(1, 1);
        due.same("the first instruction, given again in the state 0", x.chip(0, 8), 0);
    }

    private static void firstInstruction() {
        due.sentence("The first instruction of a chip is 1 if it has an identity; otherwise it is the number all of whose bits are 1.");
        for (int length = 2; length <= 6; length++) {
            ScanChain x = Chains.of(length, 0, 2, length, 1, 2, length, 253, 2);
            int[] wants = {Chains.allOnes(length), 1, 1};
            for (int place = 0; place < 3; place++) {
                x.load(place, 2);
                x.move(0);
                x.clock(0, 1);
                due.same("the first instruction of " + length + " bits", x.chip(place, 6), wants[place]);
            }
        }
    }

    private static void newChipIsGivenItsFirstInstruction() {
        due.sentence("A new chip is given its first instruction.");
        for (int state = 0; state < 16; state++) {
            ScanChain x = new ScanChain();
            x.move(state);
            for (int length = 2; length <= 6; length++) {
                x.add(length, 0, 8);
                due.same("a chip of " + length + " bits without an identity", View.chip(x, 0), length + " 0 8 0 0 0 " + Chains.allOnes(length) + " 0 0 1");
                x.take(0);
                x.add(length, 253, 8);
                due.same("a chip of " + length + " bits with an identity", View.chip(x, 0), length + " 253 8 0 0 0 1 0 0 8");
                x.take(0);
            }
        }
    }

    private static void newObject() {
        due.sentence("1: Creates a chain without chips, in the state 0, with an empty text and an empty history, without a snapshot.");
        due.same("chips", new ScanChain().count(0), 0);
        due.same("take(0)", new ScanChain().take(0), -1);
        due.same("the state", new ScanChain().count(2), 0);
        due.same("the length of the text", new ScanChain().count(8), 0);
        due.same("clearText()", new ScanChain().clearText(), 0);
        due.same("the length of the history", new ScanChain().count(7), 0);
        due.same("undo()", new ScanChain().undo(), -4);
        due.same("restore()", new ScanChain().restore(), -1);
        due.same("the number of clocks", new ScanChain().count(3), 0);
        due.same("the identities", new ScanChain().count(6), 0);
    }

    private static void refusedAdd(int codeLength, int identity, int cells) {
        due.same("add(" + codeLength + ", " + identity + ", " + cells + ")", new ScanChain().add(codeLength, identity, cells), -2);
    }

    private static void addCodeLength() {
        due.sentence("2: codeLength: 2 to 6");
        due.same("add(2, 9, 1)", new ScanChain().add(2, 9, 1), 0);
        due.same("add(6, 9, 1)", new ScanChain().add(6, 9, 1), 0);
        for (int bad : new int[] {0, 1, 7, 8}) {
            refusedAdd(bad, 9, 1);
        }
        for (int bad : OUTSIDE) {
            refusedAdd(bad, 9, 1);
        }
    }

    private static void addIdentity() {
        due.sentence("2: identity: 0, or an odd number from 1 to 253");
        for (int good : new int[] {0, 1, 3, 251, 253}) {
            ScanChain x = new ScanChain();
            due.same("add(2, " + good + ", 1)", x.add(2, good, 1), 0);
            due.same("chip(0, 1)", x.chip(0, 1), good);
        }
        for (int bad : new int[] {-253, -3, -2, 254, 255, 256, 257, 509, 511, 65537}) {
            refusedAdd(2, bad, 1);
        }
        for (int bad : OUTSIDE) {
            refusedAdd(2, bad, 1);
        }
    }

    private static void addCells() {
        due.sentence("2: cells: 1 to 8");
        due.same("add(2, 9, 1)", new ScanChain().add(2, 9, 1), 0);
        due.same("add(2, 9, 8)", new ScanChain().add(2, 9, 8), 0);
        for (int bad : new int[] {0, 9, 10, 16}) {
            refusedAdd(2, 9, bad);
        }
        for (int bad : OUTSIDE) {
            refusedAdd(2, 9, bad);
        }
    }

    private static void addRefusesEvenIdentities() {
        due.sentence("2: BAD_VALUE if an argument is out of range, or identity is even and not 0");
        for (int even = 2; even <= 256; even += 2) {
            refusedAdd(2, even, 1);
        }
    }

    private static void addToAFullChain() {
        due.sentence("2: Returns the place of the chip; ... TOO_MANY if there are 6 chips.");
        ScanChain x = Chains.same(5, 2, 0, 1);
        due.same("the sixth chip", x.add(6, 253, 8), 5);
        String before = View.of(x);
        due.same("a seventh chip", x.add(6, 253, 8), -3);
        due.same("a seventh chip with a bad code length", x.add(7, 253, 8), -2);
        due.same("a seventh chip with a bad identity", x.add(6, 255, 8), -2);
        due.same("a seventh chip with bad cells", x.add(6, 253, 9), -2);
        due.same("behind the refused ones", View.of(x), before);
        x.take(2);
        due.same("there is room again", x.add(6, 1, 8), 5);
        due.same("and no more", x.add(6, 1, 8), -3);
        x.save();
        x.take(0);
        x.undo();
        due.same("a chain that is full by undo", x.add(6, 1, 8), -3);
        x.take(5);
        x.restore();
        due.same("a chain that is full by restore", x.add(6, 1, 8), -3);
        x.undo();
        due.same("a chain that has room by undo", x.add(6, 1, 8), 5);
    }

    private static void takeMovesUp() {
        due.sentence("3: Takes a chip out; those behind it move up by one place.");
        for (int taken = 0; taken < 6; taken++) {
            ScanChain x = new ScanChain();
            for (int place = 0; place < 6; place++) {
                x.add(2 + place % 5, 2 * place + 1, 8 - place);
                x.setPins(place, place + 1);
            }
            String[] chips = new String[6];
            for (int place = 0; place < 6; place++) {
                chips[place] = View.chip(x, place);
            }
            due.same("take(" + taken + ")", x.take(taken), 2 * taken + 1);
            for (int place = 0; place < 5; place++) {
                due.same("chip " + place + " behind take(" + taken + ")", View.chip(x, place), chips[place < taken ? place : place + 1]);
            }
            due.same("chip(5, 0) behind take(" + taken + ")", x.chip(5, 0), -1);
        }
    }

    private static void takeNoSuchChip() {
        due.sentence("3: NO_SUCH if there is no such chip");
        for (int chips = 0; chips <= 6; chips++) {
            ScanChain x = Chains.same(chips, 3, 9, 4);
            String before = View.of(x);
            due.same("take(" + chips + ") of " + chips + " chips", x.take(chips), -1);
            for (int place : OUTSIDE) {
                due.same("take(" + place + ")", x.take(place), -1);
            }
            due.same("behind the refused ones", View.of(x), before);
            if (chips > 0) {
                due.same("take of the last of " + chips + " chips", x.take(chips - 1), 9);
            }
        }
    }

    private static void takeAnswersTheIdentity() {
        due.sentence("3: Returns its identity");
        due.same("no identity", Chains.of(2, 0, 1).take(0), 0);
        due.same("the least identity", Chains.of(2, 1, 1).take(0), 1);
        due.same("the greatest identity", Chains.of(2, 253, 1).take(0), 253);
        ScanChain x = Chains.of(2, 253, 1);
        x.breakChip(0, true);
        due.same("a broken chip's identity", x.take(0), 253);
        due.same("no chip is left", x.count(0) + x.count(1), 0);
    }

    private static void setPinsRange() {
        due.sentence("4: pins: 0 to 255; ... BAD_VALUE if pins is out of range");
        ScanChain x = Chains.of(2, 0, 8);
        due.same("setPins(0, 255)", x.setPins(0, 255), 0);
        String before = View.of(x);
        due.same("setPins(0, 256)", x.setPins(0, 256), -2);
        due.same("setPins(0, 257)", x.setPins(0, 257), -2);
        for (int bad : OUTSIDE) {
            due.same("setPins(0, " + bad + ")", x.setPins(0, bad), -2);
        }
        due.same("behind the refused ones", View.of(x), before);
        due.same("setPins(0, 0)", x.setPins(0, 0), 255);
        due.same("the pins", x.chip(0, 3), 0);
    }

    private static void setPinsIgnoresHighBits() {
        due.sentence("4: bits that are too high for the cells of the chip are ignored");
        for (int cells = 1; cells <= 8; cells++) {
            ScanChain x = Chains.of(2, 0, cells);
            for (int bit = 0; bit < 8; bit++) {
                x.setPins(0, 1 << bit);
                due.same("the bit " + bit + " for " + cells + " cells", x.chip(0, 3), bit < cells ? 1 << bit : 0);
            }
            x.setPins(0, 255);
            due.same("all bits for " + cells + " cells", x.chip(0, 3), Chains.allOnes(cells));
        }
    }

    private static void setPinsPrevious() {
        due.sentence("4: Returns the previous pins");
        ScanChain x = Chains.of(2, 0, 3);
        due.same("the first ones", x.setPins(0, 255), 0);
        due.same("without the bits that were ignored", x.setPins(0, 248), 7);
        due.same("nothing but ignored bits", x.setPins(0, 0), 0);
    }

    private static void setPinsNoSuchChip() {
        due.sentence("4: NO_SUCH if there is no such chip");
        due.same("setPins(0, 0) without chips", new ScanChain().setPins(0, 0), -1);
        due.same("setPins(0, 256) without chips", new ScanChain().setPins(0, 256), -1);
        ScanChain x = Chains.same(6, 2, 0, 8);
        due.same("setPins(6, 0)", x.setPins(6, 0), -1);
        due.same("setPins(6, -1): the chip is looked at first", x.setPins(6, -1), -1);
        for (int place : OUTSIDE) {
            due.same("setPins(" + place + ", 0)", x.setPins(place, 0), -1);
        }
        due.same("setPins(5, 1)", x.setPins(5, 1), 0);
        due.same("chip(5, 3)", x.chip(5, 3), 1);
    }

    private static void breakChipCounts() {
        due.sentence("5: Returns the number of broken chips");
        ScanChain x = Chains.same(6, 2, 0, 1);
        due.same("breakChip(0, false) of whole chips", x.breakChip(0, false), 0);
        for (int place = 0; place < 6; place++) {
            due.same("breakChip(" + place + ", true)", x.breakChip(place, true), place + 1);
        }
        for (int place = 0; place < 6; place++) {
            due.same("breakChip(" + place + ", false)", x.breakChip(place, false), 5 - place);
        }
    }

    private static void breakChipAgain() {
        due.sentence("5: Makes a chip broken, or whole again.");
        ScanChain x = Chains.same(2, 2, 0, 1);
        due.same("breakChip(0, true)", x.breakChip(0, true), 1);
        due.same("a broken chip, broken again", x.breakChip(0, true), 1);
        due.same("chip(0, 5)", x.chip(0, 5), 1);
        due.same("breakChip(0, false)", x.breakChip(0, false), 0);
        due.same("a whole chip, made whole", x.breakChip(0, false), 0);
        due.same("chip(0, 5)", x.chip(0, 5), 0);
    }

    private static void breakChipNoSuchChip() {
        due.sentence("5: NO_SUCH if there is no such chip");
        due.same("breakChip(0, true) without chips", new ScanChain().breakChip(0, true), -1);
        ScanChain x = Chains.same(6, 2, 0, 1);
        String before = View.of(x);
        due.same("breakChip(6, true)", x.breakChip(6, true), -1);
        for (int place : OUTSIDE) {
            due.same("breakChip(" + place + ", true)", x.breakChip(place, true), -1);
        }
        due.same("behind the refused ones", View.of(x), before);
        due.same("breakChip(5, true)", x.breakChip(5, true), 1);
    }

    private static void chipWhat() {
        due.sentence("18: what: 0 for its code length, ..., 9 for the number of bits of its data register; BAD_VALUE if what is out of range");
        ScanChain x = Chains.of(5, 77, 3);
        due.same("chip(0, 0)", x.chip(0, 0), 5);
        due.same("chip(0, 9)", x.chip(0, 9), 8);
        due.same("chip(0, 10)", x.chip(0, 10), -2);
        due.same("chip(0, 11)", x.chip(0, 11), -2);
        for (int bad : OUTSIDE) {
            due.same("chip(0, " + bad + ")", x.chip(0, bad), -2);
        }
    }

    private static void chipLeastAndMost() {
        due.sentence("18: Returns something about a chip.");
        ScanChain x = Chains.of(2, 0, 1);
        x.load(0, 0);
        x.move(11);
        Chains.clocks(x, 2, 0, 0);
        due.same("the least numbers", View.chip(x, 0), "2 0 1 0 0 0 0 0 0 1");
        ScanChain y = Chains.of(6, 253, 8);
        y.setPins(0, 255);
        y.load(0, 0);
        y.exchange(0, 255);
        y.breakChip(0, true);
        due.same("pins, outputs and data of 255", View.chip(y, 0), "6 253 8 255 255 1 0 0 255 8");
        y.load(0, 63);
        y.exchange(0, 255);
        due.same("an instruction and a code of 63", View.chip(y, 0), "6 253 8 255 255 1 63 63 1 1");
    }

    private static void chipNoSuchChip() {
        due.sentence("18: NO_SUCH if there is no such chip");
        due.same("chip(0, 0) without chips", new ScanChain().chip(0, 0), -1);
        due.same("chip(0, 10) without chips", new ScanChain().chip(0, 10), -1);
        ScanChain x = Chains.same(6, 2, 0, 1);
        due.same("chip(6, 0)", x.chip(6, 0), -1);
        due.same("chip(6, -1): the chip is looked at first", x.chip(6, -1), -1);
        for (int place : OUTSIDE) {
            due.same("chip(" + place + ", 0)", x.chip(place, 0), -1);
            due.same("chip(" + place + ", 10)", x.chip(place, 10), -1);
        }
        x.take(5);
        due.same("chip(5, 0) behind take(5)", x.chip(5, 0), -1);
    }
}
