/**
 * The boundary cases that the document's sentences on the master name, a test for each sentence: the
 * terms on readings, loads and exchanges, and promises 8, 9, 10, 20, 23 and 24.
 */
public final class BoundaryMasterTest {
    private static final Due due = new Due("BoundaryMasterTest");
    private static final int[] OUTSIDE = {Integer.MIN_VALUE, Integer.MIN_VALUE + 1, -65536, -256, -1, 65536, Integer.MAX_VALUE - 1, Integer.MAX_VALUE};
    private static final int[] KINDS = {2, 0, 1, 3, 253, 8, 4, 1, 5, 5, 0, 8, 6, 127, 2, 2, 0, 3};

    public static void main(String[] args) {
        readingBeginsFromEveryState();
        readingsOfNoIdentities();
        readingsOfIdentities();
        readingEndsByAllOnes();
        readingOfTheMostChips();
        readingEndsIdle();
        latestReading();
        loadTakesTheCodesBits();
        loadLastClockAlone();
        loadGivesOnesToTheOthers();
        loadFromEveryState();
        loadHasTheLowestBitFirst();
        loadThroughBrokenChips();
        exchangeTakesTheSelectedBits();
        exchangeLastClockAlone();
        exchangeGivesZeroToTheOthers();
        exchangeBehindTheMove();
        exchangeFromEveryState();
        exchangeHasTheLowestBitFirst();
        oldDataHaveTheLowestBitFirst();
        exchangeThroughBrokenChips();
        identifyCounts();
        loadRange();
        loadIgnoresHighBits();
        loadAnswersTheBits();
        loadNoSuchChip();
        exchangeRange();
        exchangeIgnoresHighBits();
        exchangeOldData();
        exchangeNoSuchChip();
        foundRange();
        foundNone();
        ifIdentifiedForetells();
        ifIdentifiedChangesNothing();
        ifExchangedForetells();
        ifExchangedErrors();
        ifExchangedChangesNothing();
        due.end();
    }

    // ---- the same by single clocks

    /** What single clocks can bring about, too: all but the identities that the master keeps. */
    private static String chips(ScanChain x) {
        StringBuilder view = new StringBuilder("state " + x.count(2) + " clocks " + x.count(3));
        for (int place = 0; place < x.count(0); place++) {
            view.append(" | ").append(View.chip(x, place));
        }
        return view.toString();
    }

    private static String readByHand(ScanChain x) {
        StringBuilder identities = new StringBuilder();
        Chains.clocks(x, 5, 1, 1);
        x.move(4);
        int identity = 0;
        for (int reads = 0; reads < 8 && identity != 255; reads++) {
            identity = x.clock(0, 1);
            for (int bit = 1; bit < 8 && identity != 0; bit++) {
                identity |= x.clock(0, 1) << bit;
            }
            identities.append(identity == 255 ? "" : identity + " ");
        }
        x.move(1);
        return identities.toString();
    }

    private static String kept(ScanChain x) {
        StringBuilder identities = new StringBuilder();
        for (int index = 0; index < x.count(6); index++) {
            identities.append(x.found(index)).append(' ');
        }
        return identities.toString();
    }

    private static void loadByHand(ScanChain x, int chip, int instruction) {
        x.move(11);
        for (int at = x.count(0) - 1; at >= 0; at--) {
            int bits = x.chip(at, 0);
            for (int bit = 0; bit < bits; bit++) {
                x.clock(at == 0 && bit == bits - 1 ? 1 : 0, at == chip ? instruction >> bit & 1 : 1);
            }
        }
        x.move(1);
    }

    private static int exchangeByHand(ScanChain x, int chip, int data) {
        int old = 0;
        x.move(4);
        for (int at = x.count(0) - 1; at >= 0; at--) {
            int bits = x.chip(at, 9);
            for (int bit = 0; bit < bits; bit++) {
                int output = x.clock(at == 0 && bit == bits - 1 ? 1 : 0, at == chip ? data >> bit & 1 : 0);
                old |= at == chip ? output << bit : 0;
            }
        }
        x.move(1);
        return old;
    }

    /** Three chips with full registers and outputs that differ, in a state. */
    private static ScanChain full(int state) {
        ScanChain x = Chains.of(3, 0x59, 6, 2, 0, 4, 6, 0, 8);
        x.setPins(0, 38);
        x.setPins(1, 11);
        x.setPins(2, 129);
        x.load(2, 0);
        x.exchange(2, 200);
        x.load(0, 2);
        x.load(1, 0);
        x.exchange(1, 13);
        x.move(11);
        Chains.clocks(x, 3, 0, 0);
        Chains.clocks(x, 2, 0, 1);
        x.move(4);
        Chains.clocks(x, 3, 0, 1);
        Chains.clocks(x, 2, 0, 0);
        x.move(state);
        return x;
    }

    // ---- the terms

    private static void readingBeginsFromEveryState() {
        due.sentence("the master makes five clocks with the mode 1 and the input 1, and moves to the state 4");
        for (int state = 0; state < 16; state++) {
            ScanChain read = full(state);
            ScanChain clocked = full(state);
            due.same("identify() in " + state, read.identify(), 3);
            due.same("the identities", kept(read), readByHand(clocked));
            due.same("the chips behind identify() in " + state, chips(read), chips(clocked));
        }
        ScanChain x = new ScanChain();
        x.identify();
        due.same("the clocks without chips: 5, a move of 4, 8, a move of 3", x.count(3), 20);
    }

    private static void readingsOfNoIdentities() {
        due.sentence("if the output of a clock is 0, a chip without identity is found (the identity 0)");
        for (int chips = 1; chips <= 6; chips++) {
            ScanChain x = Chains.same(chips, 2, 0, 8);
            due.same("identify() of " + chips + " chips without identities", x.identify(), chips);
            due.same("the identities", kept(x), "0 ".repeat(chips));
            due.same("one clock for each", x.count(3), 5 + 4 + chips + 8 + 3);
        }
    }

    private static void readingsOfIdentities() {
        due.sentence("if it is 1, seven more clocks are made, and the identity that is found is the number whose bits, the lowest first, are this output and the outputs of these seven clocks");
        for (int identity = 1; identity <= 253; identity += 2) {
            ScanChain x = Chains.of(2, identity, 1, 2, 0, 1, 2, identity, 1);
            due.same("identify() with the identity " + identity, x.identify(), 3);
            due.same("the identities", kept(x), identity + " 0 " + identity + " ");
            due.same("eight clocks for each identity", x.count(3), 5 + 4 + 8 + 1 + 8 + 8 + 3);
        }
    }

    private static void readingEndsByAllOnes() {
        due.sentence("if it is 255, it is none, and the reading ends");
        ScanChain none = new ScanChain();
        due.same("identify() without chips", none.identify(), 0);
        due.same("count(6) without chips", none.count(6), 0);
        due.same("found(0) without chips", none.found(0), -4);
        for (int broken = 0; broken < 6; broken++) {
            ScanChain x = Chains.same(6, 2, 253, 1);
            x.breakChip(broken, true);
            due.same("identify() with the broken chip " + broken, x.identify(), 5 - broken);
            due.same("count(6)", x.count(6), 5 - broken);
            due.same("found(" + (5 - broken) + ")", x.found(5 - broken), -4);
            due.same("the clocks", x.count(3), 5 + 4 + (5 - broken) * 8 + 8 + 3);
        }
    }

    /** Six chips is as near as a reading comes to its bound of 8 identities: the ones of the input end it. */
    private static void readingOfTheMostChips() {
        due.sentence("It ends, too, when 8 chips have been found.");
        ScanChain x = Chains.of(KINDS);
        due.same("identify() of six chips", x.identify(), 6);
        due.same("the identities, the last chip first", kept(x), "0 127 0 1 253 0 ");
        due.same("found(6)", x.found(6), -4);
        due.same("found(7)", x.found(7), -4);
        due.same("found(8)", x.found(8), -4);
    }

    private static void readingEndsIdle() {
        due.sentence("Then the master moves to the state 1.");
        for (int chips = 0; chips <= 6; chips++) {
            ScanChain x = Chains.same(chips, 2, 9, 1);
            x.identify();
            due.same("the state behind identify() of " + chips + " chips", x.count(2), 1);
            due.same("the identity register is full of ones", x.chip(0, 8), chips == 0 ? -1 : 255);
        }
        ScanChain y = Chains.of(2, 9, 1);
        y.load(0, 2);
        due.same("the state behind load", y.count(2), 1);
        y.exchange(0, 1);
        due.same("the state behind exchange", y.count(2), 1);
    }

    private static void latestReading() {
        due.sentence("The master keeps the identities that were found in the latest reading.");
        ScanChain x = Chains.same(6, 2, 77, 1);
        due.same("count(6) ahead of a reading", x.count(6), 0);
        x.identify();
        due.same("count(6) behind a reading of six", x.count(6), 6);
        x.take(0);
        due.same("a take changes nothing of it", kept(x), "77 77 77 77 77 77 ");
        x.add(2, 5, 1);
        x.breakChip(4, true);
        x.identify();
        due.same("a reading of one", kept(x), "5 ");
        due.same("found(1)", x.found(1), -4);
        x.breakChip(5, true);
        x.identify();
        due.same("a reading of none", kept(x), "");
        due.same("found(0)", x.found(0), -4);
    }

    private static void loadTakesTheCodesBits() {
        due.sentence("for each chip from the last place to the first one, it makes as many clocks as the code length of the chip");
        for (int length = 2; length <= 6; length++) {
            for (int chips = 1; chips <= 6; chips++) {
                ScanChain x = Chains.same(chips, length, 0, 1);
                x.load(0, 0);
                due.same("the clocks of a load of " + chips + " codes of " + length, x.count(3), 5 + chips * length + 2);
            }
        }
    }

    private static void loadLastClockAlone() {
        due.sentence("the mode is 0, but 1 in the last one of all these clocks");
        for (int code = 0; code <= 3; code++) {
            ScanChain x = Chains.of(2, 0, 1);
            x.move(11);
            x.load(0, code);
            due.same("load(0, " + code + ") of the shortest chain", View.chip(x, 0), "2 0 1 0 0 0 " + code + " " + code + " 0 1");
            due.same("its clocks", x.count(3), 5 + 2 + 2);
        }
        ScanChain y = Chains.same(6, 6, 0, 1);
        y.load(5, 33);
        due.same("load of the first code of the longest chain", y.chip(5, 6), 33);
        y.load(0, 30);
        due.same("load of the last code of the longest chain", y.chip(0, 6), 30);
    }

    private static void loadGivesOnesToTheOthers() {
        due.sentence("the code is the instruction for this chip, and the number all of whose bits are 1 for the others");
        for (int chip = 0; chip < 6; chip++) {
            ScanChain x = Chains.of(KINDS);
            x.load(chip, 2);
            for (int place = 0; place < 6; place++) {
                int want = place == chip ? 2 : Chains.allOnes(KINDS[3 * place]);
                due.same("the instruction of " + place + " behind load(" + chip + ", 2)", x.chip(place, 6), want);
                due.same("its code register", x.chip(place, 7), want);
            }
        }
    }

    private static void loadFromEveryState() {
        due.sentence("To load an instruction into a chip means: the master moves to the state 11");
        for (int state = 0; state < 16; state++) {
            for (int chip = 0; chip < 3; chip++) {
                ScanChain loaded = full(state);
                ScanChain clocked = full(state);
                loaded.load(chip, 2);
                loadByHand(clocked, chip, 2);
                due.same("load(" + chip + ", 2) in " + state, View.system(loaded), View.system(clocked));
            }
        }
    }

    private static void loadHasTheLowestBitFirst() {
        due.sentence("with the bits of a code as inputs, the lowest first");
        for (int length = 2; length <= 6; length++) {
            for (int chip = 0; chip < 6; chip++) {
                ScanChain x = Chains.same(6, length, 0, 1);
                x.load(chip, 1);
                due.same("the lowest bit of " + length + " for " + chip, x.chip(chip, 6), 1);
                x.load(chip, Chains.allOnes(length) - 1);
                due.same("all but the lowest bit of " + length + " for " + chip, x.chip(chip, 6), Chains.allOnes(length) - 1);
            }
        }
    }

    private static void loadThroughBrokenChips() {
        due.sentence("The output of a chip is ... 1 if it is broken.");
        for (int broken = 0; broken < 6; broken++) {
            for (int chip = 0; chip < 6; chip++) {
                ScanChain loaded = Chains.of(KINDS);
                loaded.breakChip(broken, true);
                loaded.load(chip, 0);
                for (int place = 0; place < 6; place++) {
                    boolean reached = place == chip && chip <= broken;
                    due.same("the instruction of " + place + " behind load(" + chip + ", 0) with the broken chip " + broken,
                            loaded.chip(place, 6), reached ? 0 : Chains.allOnes(KINDS[3 * place]));
                }
            }
        }
    }

    private static void exchangeTakesTheSelectedBits() {
        due.sentence("for each chip from the last place to the first one, it makes as many clocks as its selected data register has bits then (behind that move)");
        for (int chips = 1; chips <= 6; chips++) {
            ScanChain bypasses = Chains.same(chips, 2, 0, 8);
            bypasses.exchange(0, 0);
            due.same("the clocks with " + chips + " bypasses", bypasses.count(3), 4 + chips + 2);
            ScanChain identities = Chains.same(chips, 2, 1, 1);
            identities.exchange(0, 0);
            due.same("the clocks with " + chips + " identities", identities.count(3), 4 + chips * 8 + 2);
        }
        for (int cells = 1; cells <= 8; cells++) {
            ScanChain x = Chains.of(2, 9, cells);
            x.load(0, 0);
            int clocks = x.count(3);
            x.exchange(0, 255);
            due.same("the clocks with " + cells + " cells", x.count(3) - clocks, 3 + cells + 2);
        }
    }

    private static void exchangeLastClockAlone() {
        due.sentence("the mode is 0, but 1 in the last one of all these clocks");
        ScanChain x = Chains.of(2, 0, 1);
        due.same("exchange(0, 1) of the shortest chain", x.exchange(0, 1), 0);
        due.same("its clocks", x.count(3), 4 + 1 + 2);
        due.same("its data", x.chip(0, 8), 1);
        ScanChain y = Chains.same(6, 2, 253, 1);
        due.same("exchange of the first number of the longest chain", y.exchange(5, 129), 253);
        due.same("its data", y.chip(5, 8), 129);
        due.same("exchange of the last number of the longest chain", y.exchange(0, 126), 253);
        due.same("its data", y.chip(0, 8), 126);
    }

    private static void exchangeGivesZeroToTheOthers() {
        due.sentence("the number is the new data for this chip, and 0 for the others");
        for (int chip = 0; chip < 6; chip++) {
            ScanChain x = Chains.same(6, 2, 253, 1);
            due.same("exchange(" + chip + ", 255)", x.exchange(chip, 255), 253);
            for (int place = 0; place < 6; place++) {
                due.same("the data of " + place, x.chip(place, 8), place == chip ? 255 : 0);
            }
        }
    }

    private static void exchangeBehindTheMove() {
        due.sentence("(behind that move)");
        ScanChain grows = Chains.of(2, 253, 1);
        grows.load(0, 3);
        grows.move(0);
        due.same("the bits ahead of the move through the reset", grows.chip(0, 9), 1);
        due.same("exchange in 0: the identity", grows.exchange(0, 170), 253);
        due.same("all bits of the data are taken", grows.chip(0, 8), 170);
        ScanChain shrinks = Chains.of(2, 0, 8);
        shrinks.setPins(0, 255);
        shrinks.load(0, 0);
        shrinks.move(9);
        due.same("the bits ahead of the move through the reset", shrinks.chip(0, 9), 8);
        due.same("exchange in 9: the bypass", shrinks.exchange(0, 254), 0);
        due.same("the bits that are too high are ignored", shrinks.chip(0, 8), 0);
        ScanChain updated = Chains.of(3, 253, 4);
        updated.setPins(0, 9);
        updated.move(11);
        Chains.clocks(updated, 3, 0, 0);
        updated.move(12);
        updated.move(11);
        Chains.clocks(updated, 3, 0, 0);
        updated.clock(1, 0);
        due.same("the bits ahead of the move through the update", updated.chip(0, 9), 8);
        due.same("exchange in 12: the cells", updated.exchange(0, 255), 9);
        due.same("the outputs", updated.chip(0, 4), 15);
    }

    private static void exchangeFromEveryState() {
        due.sentence("To exchange the data of a chip means: the master moves to the state 4");
        for (int state = 0; state < 16; state++) {
            for (int chip = 0; chip < 3; chip++) {
                ScanChain exchanged = full(state);
                ScanChain clocked = full(state);
                due.same("exchange(" + chip + ", 182) in " + state, exchanged.exchange(chip, 182), exchangeByHand(clocked, chip, 182));
                due.same("behind it", View.system(exchanged), View.system(clocked));
            }
        }
    }

    private static void exchangeHasTheLowestBitFirst() {
        due.sentence("with the bits of a number as inputs, the lowest first");
        for (int cells = 1; cells <= 8; cells++) {
            for (int chip = 0; chip < 6; chip++) {
                ScanChain x = Chains.same(6, 2, 0, cells);
                x.load(chip, 0);
                x.exchange(chip, 1);
                due.same("the lowest bit of " + cells + " for " + chip, x.chip(chip, 4), 1);
                x.exchange(chip, 254);
                due.same("all but the lowest bit of " + cells + " for " + chip, x.chip(chip, 4), Chains.allOnes(cells) - 1);
            }
        }
    }

    private static void oldDataHaveTheLowestBitFirst() {
        due.sentence("The old data are the number whose bits, the lowest first, are the outputs of the clocks that were made for this chip.");
        for (int chip = 0; chip < 6; chip++) {
            ScanChain x = Chains.of(2, 1, 1, 3, 253, 1, 4, 3, 1, 5, 127, 1, 6, 83, 1, 2, 0, 1);
            due.same("exchange(" + chip + ", 0)", x.exchange(chip, 0), x.chip(chip, 1));
        }
    }

    private static void exchangeThroughBrokenChips() {
        due.sentence("The output of a chip is ... 1 if it is broken.");
        for (int broken = 0; broken < 6; broken++) {
            for (int chip = 0; chip < 6; chip++) {
                ScanChain x = Chains.same(6, 2, 129, 1);
                x.breakChip(broken, true);
                due.same("exchange(" + chip + ", 0) with the broken chip " + broken, x.exchange(chip, 0), chip <= broken ? 255 : 129);
            }
        }
    }

    // ---- the promises

    private static void identifyCounts() {
        due.sentence("8: Returns the number of chips that are found.");
        for (int chips = 0; chips <= 6; chips++) {
            due.same("identify() of " + chips + " chips with identities", Chains.same(chips, 6, 253, 8).identify(), chips);
            due.same("identify() of " + chips + " chips without identities", Chains.same(chips, 6, 0, 8).identify(), chips);
            ScanChain x = Chains.same(chips, 6, 1, 8);
            x.breakChip(chips - 1, true);
            due.same("identify() with a broken last chip of " + chips, x.identify(), 0);
        }
    }

    private static void loadRange() {
        due.sentence("9: instruction: 0 to 63; ... BAD_VALUE if instruction is out of range");
        ScanChain x = Chains.of(6, 0, 8);
        due.same("load(0, 63)", x.load(0, 63), 1);
        due.same("chip(0, 6)", x.chip(0, 6), 63);
        due.same("load(0, 0)", x.load(0, 0), 8);
        due.same("chip(0, 6)", x.chip(0, 6), 0);
        String before = View.of(x);
        due.same("load(0, 64)", x.load(0, 64), -2);
        due.same("load(0, 66)", x.load(0, 66), -2);
        for (int bad : OUTSIDE) {
            due.same("load(0, " + bad + ")", x.load(0, bad), -2);
        }
        due.same("behind the refused ones", View.of(x), before);
    }

    private static void loadIgnoresHighBits() {
        due.sentence("9: bits that are too high for the code length of the chip are ignored");
        for (int length = 2; length <= 6; length++) {
            ScanChain x = Chains.of(6, 0, 1, length, 0, 1, 6, 0, 1);
            for (int bit = 0; bit < 6; bit++) {
                x.load(1, 1 << bit);
                due.same("the bit " + bit + " for " + length + " bits", x.chip(1, 6), bit < length ? 1 << bit : 0);
                due.same("the chips next to it", x.chip(0, 6) + x.chip(2, 6), 126);
            }
            x.load(1, 63);
            due.same("all bits for " + length + " bits", x.chip(1, 6), Chains.allOnes(length));
        }
    }

    private static void loadAnswersTheBits() {
        due.sentence("9: Returns the number of bits of the data register that is selected afterwards");
        for (int cells = 1; cells <= 8; cells++) {
            ScanChain x = Chains.of(2, 9, cells);
            due.same("load(0, 3): ahead of it the identity", x.load(0, 3), 1);
            due.same("load(0, 0) of " + cells + " cells", x.load(0, 0), cells);
            due.same("load(0, 1): ahead of it the cells", x.load(0, 1), 8);
            due.same("load(0, 2) of " + cells + " cells", x.load(0, 2), cells);
            due.same("load(0, 60): 0 is left of it", x.load(0, 60), cells);
        }
        ScanChain broken = Chains.of(2, 0, 1, 2, 0, 8);
        broken.breakChip(0, true);
        due.same("load(1, 0) behind a broken chip", broken.load(1, 0), 1);
    }

    private static void loadNoSuchChip() {
        due.sentence("9: NO_SUCH if there is no such chip");
        due.same("load(0, 0) without chips", new ScanChain().load(0, 0), -1);
        due.same("load(0, 64) without chips", new ScanChain().load(0, 64), -1);
        ScanChain x = Chains.same(6, 2, 0, 8);
        String before = View.of(x);
        due.same("load(6, 0)", x.load(6, 0), -1);
        due.same("load(6, 64): the chip is looked at first", x.load(6, 64), -1);
        for (int place : OUTSIDE) {
            due.same("load(" + place + ", 0)", x.load(place, 0), -1);
        }
        due.same("behind the refused ones", View.of(x), before);
        due.same("load(5, 0)", x.load(5, 0), 8);
    }

    private static void exchangeRange() {
        due.sentence("10: data: 0 to 255; ... BAD_VALUE if data is out of range");
        ScanChain x = Chains.of(6, 0, 8);
        x.load(0, 0);
        due.same("exchange(0, 255)", x.exchange(0, 255), 0);
        due.same("chip(0, 4)", x.chip(0, 4), 255);
        String before = View.of(x);
        due.same("exchange(0, 256)", x.exchange(0, 256), -2);
        due.same("exchange(0, 257)", x.exchange(0, 257), -2);
        for (int bad : OUTSIDE) {
            due.same("exchange(0, " + bad + ")", x.exchange(0, bad), -2);
        }
        due.same("behind the refused ones", View.of(x), before);
        due.same("exchange(0, 0)", x.exchange(0, 0), 0);
        due.same("chip(0, 4)", x.chip(0, 4), 0);
    }

    private static void exchangeIgnoresHighBits() {
        due.sentence("10: bits that are too high for the selected data register (as it is behind the move to the state 4) are ignored");
        for (int cells = 1; cells <= 8; cells++) {
            ScanChain x = Chains.of(2, 0, 1, 3, 0, cells, 2, 0, 1);
            x.load(1, 0);
            for (int bit = 0; bit < 8; bit++) {
                x.exchange(1, 1 << bit);
                due.same("the bit " + bit + " for " + cells + " cells", x.chip(1, 4), bit < cells ? 1 << bit : 0);
                due.same("the bypasses next to it", x.chip(0, 8) + x.chip(2, 8), 0);
            }
            x.exchange(1, 255);
            due.same("all bits for " + cells + " cells", x.chip(1, 4), Chains.allOnes(cells));
        }
        ScanChain bypass = Chains.of(2, 0, 8, 2, 0, 8);
        bypass.exchange(1, 254);
        due.same("the bits for a bypass", bypass.chip(0, 8) + bypass.chip(1, 8), 0);
    }

    private static void exchangeOldData() {
        due.sentence("10: Returns the old data");
        ScanChain x = Chains.of(2, 253, 8, 2, 0, 8);
        due.same("a bypass", x.exchange(1, 1), 0);
        due.same("the greatest identity", x.exchange(0, 0), 253);
        x.load(1, 2);
        due.same("the least pins", x.exchange(1, 255), 0);
        x.setPins(1, 255);
        due.same("the most pins", x.exchange(1, 0), 255);
        x.move(4);
        Chains.clocks(x, 9, 0, 0);
        due.same("exchange in the state 4: what is in the register", x.exchange(1, 0), 0);
        due.same("the pins", x.chip(1, 3), 255);
    }

    private static void exchangeNoSuchChip() {
        due.sentence("10: NO_SUCH if there is no such chip");
        due.same("exchange(0, 0) without chips", new ScanChain().exchange(0, 0), -1);
        due.same("exchange(0, 256) without chips", new ScanChain().exchange(0, 256), -1);
        ScanChain x = Chains.same(6, 2, 0, 8);
        String before = View.of(x);
        due.same("exchange(6, 0)", x.exchange(6, 0), -1);
        due.same("exchange(6, 256): the chip is looked at first", x.exchange(6, 256), -1);
        for (int place : OUTSIDE) {
            due.same("exchange(" + place + ", 0)", x.exchange(place, 0), -1);
        }
        due.same("behind the refused ones", View.of(x), before);
        due.same("exchange(5, 0)", x.exchange(5, 0), 0);
    }

    private static void foundRange() {
        due.sentence("20: BAD_VALUE if index is below 0");
        ScanChain none = new ScanChain();
        ScanChain six = Chains.same(6, 2, 9, 1);
        six.identify();
        for (ScanChain x : new ScanChain[] {none, six}) {
            due.same("found(-1)", x.found(-1), -2);
            due.same("found(-4)", x.found(-4), -2);
            due.same("found(MIN)", x.found(Integer.MIN_VALUE), -2);
        }
        due.same("found(0)", six.found(0), 9);
    }

    private static void foundNone() {
        due.sentence("20: index: 0 for the one that was found first; ... NONE if there are not so many");
        for (int chips = 0; chips <= 6; chips++) {
            ScanChain x = Chains.same(chips, 2, 0, 1);
            due.same("found(0) ahead of a reading", x.found(0), -4);
            x.take(0);
            x.add(2, 253, 1);
            x.identify();
            int kept = Math.max(chips, 1);
            due.same("found(0) of " + kept, x.found(0), 253);
            due.same("the last one found of " + kept, x.found(kept - 1), kept == 1 ? 253 : 0);
            due.same("the one behind the last of " + kept, x.found(kept), -4);
            due.same("found(7)", x.found(7), -4);
            due.same("found(8)", x.found(8), -4);
            due.same("found(9)", x.found(9), -4);
            due.same("found(MAX)", x.found(Integer.MAX_VALUE), -4);
        }
    }

    private static void ifIdentifiedForetells() {
        due.sentence("23: Returns how many chips identify would find.");
        for (int chips = 0; chips <= 6; chips++) {
            for (int broken = -1; broken < chips; broken++) {
                ScanChain x = Chains.same(chips, 2, 9, 1);
                x.breakChip(broken, true);
                int foretold = x.ifIdentified();
                due.same("ifIdentified() of " + chips + " chips", foretold, broken < 0 ? chips : chips - 1 - broken);
                due.same("identify()", x.identify(), foretold);
            }
        }
    }

    private static void ifIdentifiedChangesNothing() {
        due.sentence("queries; they change nothing");
        ScanChain asked = Chains.used();
        asked.ifIdentified();
        due.same("a chain that ifIdentified was asked of", View.whole(asked), View.whole(Chains.used()));
        ScanChain x = Chains.of(2, 9, 1);
        x.ifIdentified();
        due.same("nothing is kept", x.count(6), 0);
        due.same("nothing is found", x.found(0), -4);
    }

    private static void ifExchangedForetells() {
        due.sentence("24: Returns what exchange would return.");
        for (int state = 0; state < 16; state++) {
            for (int chip = 0; chip < 3; chip++) {
                ScanChain x = full(state);
                int foretold = x.ifExchanged(chip, 255);
                due.same("ifExchanged(" + chip + ", 255) in " + state, foretold, x.exchange(chip, 255));
            }
        }
        ScanChain most = Chains.of(2, 0, 8);
        most.load(0, 0);
        most.setPins(0, 255);
        due.same("the most", most.ifExchanged(0, 255), 255);
        most.setPins(0, 0);
        due.same("the least", most.ifExchanged(0, 0), 0);
        due.same("the outputs stay", most.chip(0, 4), 0);
    }

    private static void ifExchangedErrors() {
        due.sentence("24: an error code as for exchange");
        due.same("ifExchanged(0, 0) without chips", new ScanChain().ifExchanged(0, 0), -1);
        due.same("ifExchanged(0, 256) without chips", new ScanChain().ifExchanged(0, 256), -1);
        ScanChain x = Chains.same(6, 2, 0, 8);
        due.same("ifExchanged(6, 0)", x.ifExchanged(6, 0), -1);
        due.same("ifExchanged(6, 256): the chip is looked at first", x.ifExchanged(6, 256), -1);
        due.same("ifExchanged(5, 256)", x.ifExchanged(5, 256), -2);
        due.same("ifExchanged(5, 255)", x.ifExchanged(5, 255), 0);
        for (int bad : OUTSIDE) {
            due.same("ifExchanged(" + bad + ", 0)", x.ifExchanged(bad, 0), -1);
            due.same("ifExchanged(0, " + bad + ")", x.ifExchanged(0, bad), -2);
        }
    }

    private static void ifExchangedChangesNothing() {
        due.sentence("queries; they change nothing");
        ScanChain asked = Chains.used();
        asked.ifExchanged(0, 255);
        asked.ifExchanged(1, 255);
        asked.ifExchanged(2, 255);
        asked.ifExchanged(0, 256);
        due.same("a chain that ifExchanged was asked of", View.whole(asked), View.whole(Chains.used()));
    }
}
