/** Chains that the tests of the boundary cases begin with. */
final class Chains {
    private Chains() {
    }

    /** A chain of these chips, three numbers for each one: code length, identity, cells. */
    static ScanChain of(int... chips) {
        ScanChain x = new ScanChain();
        for (int at = 0; at + 2 < chips.length; at += 3) {
            x.add(chips[at], chips[at + 1], chips[at + 2]);
        }
        return x;
    }

    /** As many chips of one kind. */
    static ScanChain same(int chips, int codeLength, int identity, int cells) {
        ScanChain x = new ScanChain();
        for (int place = 0; place < chips; place++) {
            x.add(codeLength, identity, cells);
        }
        return x;
    }

    /** A chain in which each thing of the state of the system differs from what it is at first. */
    static ScanChain used() {
        ScanChain x = of(3, 9, 4, 4, 0, 5);
        x.setPins(0, 11);
        x.setPins(1, 21);
        x.load(0, 0);
        x.exchange(0, 7);
        x.breakChip(1, true);
        x.save();
        x.breakChip(1, false);
        x.identify();
        x.load(1, 0);
        x.exchange(1, 10);
        View.write(x, "@4?0");
        x.move(11);
        return x;
    }

    /** The number with so many bits, all of them 1. */
    static int allOnes(int bits) {
        return (1 << bits) - 1;
    }

    /** So many clocks with the same mode and input. */
    static void clocks(ScanChain x, int number, int mode, int input) {
        for (int clock = 0; clock < number; clock++) {
            x.clock(mode, input);
        }
    }
}
