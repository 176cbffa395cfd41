/** Promises 1 to 5: a new object and the calls on chips; 18: what is told of a chip. */
public final class ChipsTest {
    private static final Due due = new Due("ChipsTest");

    public static void main(String[] args) {
        constants();
        newObject();
        add();
        addInAnyState();
        take();
        setPins();
        breakChip();
        chip();
        due.end();
    }

    private static void constants() {
        due.promise("the constants");
        due.same("NO_SUCH", ScanChain.NO_SUCH, -1);
        due.same("BAD_VALUE", ScanChain.BAD_VALUE, -2);
        due.same("TOO_MANY", ScanChain.TOO_MANY, -3);
        due.same("NONE", ScanChain.NONE, -4);
    }

    private static void newObject() {
        due.promise("1 A new object");
        ScanChain x = new ScanChain();
        for (int what = 0; what <= 8; what++) {
            due.same("count(" + what + ")", x.count(what), 0);
        }
        due.same("chip(0, 0)", x.chip(0, 0), -1);
        due.same("found(0)", x.found(0), -4);
        due.same("fault()", x.fault(), 0);
        due.same("undo()", x.undo(), -4);
        due.same("restore()", x.restore(), -1);
        due.same("clearText()", x.clearText(), 0);
        due.sameFloat("bypassed()", x.bypassed(), 0.0f);
        due.same("peek(0)", x.peek(0), 1);
        due.same("ifIdentified()", x.ifIdentified(), 0);
        ScanChain other = new ScanChain();
        x.add(2, 0, 1);
        due.same("count(0) of another object", other.count(0), 0);
    }

    private static void add() {
        due.promise("2 add");
        ScanChain x = new ScanChain();
        String before = View.of(x);
        int[][] bad = {
            {1, 0, 1}, {7, 0, 1}, {-1, 0, 1}, {Integer.MIN_VALUE, 0, 1}, {Integer.MAX_VALUE, 0, 1},
            {2, -1, 1}, {2, 2, 1}, {2, 252, 1}, {2, 254, 1}, {2, 255, 1}, {2, 257, 1}, {2, -3, 1},
            {2, Integer.MIN_VALUE, 1}, {2, Integer.MAX_VALUE, 1},
            {2, 0, 0}, {2, 0, 9}, {2, 0, -1}, {2, 0, Integer.MAX_VALUE}, {2, 0, Integer.MIN_VALUE}};
        for (int[] b : bad) {
            due.same("add(" + b[0] + ", " + b[1] + ", " + b[2] + ")", x.add(b[0], b[1], b[2]), -2);
        }
        due.same("a refused add", View.of(x), before);
        due.same("add(2, 0, 1)", x.add(2, 0, 1), 0);
        due.same("add(6, 253, 8)", x.add(6, 253, 8), 1);
        due.same("add(3, 1, 5)", x.add(3, 1, 5), 2);
        due.same("chip 0", View.chip(x, 0), "2 0 1 0 0 0 3 0 0 1");
        due.same("chip 1", View.chip(x, 1), "6 253 8 0 0 0 1 0 0 8");
        due.same("chip 2", View.chip(x, 2), "3 1 5 0 0 0 1 0 0 8");
        due.same("add(6, 0, 8)", x.add(6, 0, 8), 3);
        due.same("chip 3", View.chip(x, 3), "6 0 8 0 0 0 63 0 0 1");
        due.same("add(4, 0, 2)", x.add(4, 0, 2), 4);
        due.same("add(5, 0, 3)", x.add(5, 0, 3), 5);
        due.same("chip 5", View.chip(x, 5), "5 0 3 0 0 0 31 0 0 1");
        before = View.of(x);
        due.same("a bad seventh add", x.add(2, 2, 1), -2);
        due.same("a seventh add", x.add(2, 0, 1), -3);
        due.same("a refused seventh add", View.of(x), before);
        x.take(0);
        due.same("add behind a take", x.add(2, 9, 4), 5);
        due.same("chip 5 behind a take", View.chip(x, 5), "2 9 4 0 0 0 1 0 0 8");
    }

    private static void addInAnyState() {
        due.promise("2 add");
        ScanChain x = new ScanChain();
        x.add(4, 9, 8);
        x.setPins(0, 255);
        x.breakChip(0, true);
        x.load(0, 0);
        x.exchange(0, 255);
        x.move(11);
        x.take(0);
        due.same("add in the state 11", x.add(4, 0, 8), 0);
        due.same("nothing is left of the chip that stood there", View.chip(x, 0), "4 0 8 0 0 0 15 0 0 1");
        due.same("the state stays", x.count(2), 11);
    }

    private static void take() {
        due.promise("3 take");
        ScanChain x = new ScanChain();
        due.same("take(0) without chips", x.take(0), -1);
        x.add(2, 11, 1);
        x.add(3, 0, 2);
        x.add(4, 33, 3);
        x.setPins(2, 5);
        x.breakChip(2, true);
        String before = View.of(x);
        due.same("take(-1)", x.take(-1), -1);
        due.same("take(3)", x.take(3), -1);
        due.same("take(MAX)", x.take(Integer.MAX_VALUE), -1);
        due.same("take(MIN)", x.take(Integer.MIN_VALUE), -1);
        due.same("a refused take", View.of(x), before);
        due.same("take(1)", x.take(1), 0);
        due.same("chip 0", View.chip(x, 0), "2 11 1 0 0 0 1 0 0 8");
        due.same("chip 1 was chip 2", View.chip(x, 1), "4 33 3 5 0 1 1 0 0 8");
        due.same("chip(2, 0)", x.chip(2, 0), -1);
        due.same("count(0)", x.count(0), 2);
        due.same("take(0)", x.take(0), 11);
        due.same("chip 0 was chip 1", View.chip(x, 0), "4 33 3 5 0 1 1 0 0 8");
        due.same("take(0) of the last one", x.take(0), 33);
        due.same("count(0)", x.count(0), 0);
        due.same("take(0) without chips", x.take(0), -1);
        due.same("the history counts takes", x.count(7), 4);
        keepsAfterTake();
    }

    private static void keepsAfterTake() {
        ScanChain x = new ScanChain();
        x.add(2, 11, 1);
        x.add(2, 13, 1);
        x.identify();
        x.take(1);
        due.same("found(0) behind a take", x.found(0), 13);
        due.same("the identities that are kept behind a take", x.count(6), 2);
    }

    private static void setPins() {
        due.promise("4 setPins");
        ScanChain x = new ScanChain();
        due.same("setPins(0, 999) without chips", x.setPins(0, 999), -1);
        x.add(2, 0, 3);
        x.add(2, 0, 8);
        String before = View.of(x);
        due.same("setPins(2, 0)", x.setPins(2, 0), -1);
        due.same("setPins(-1, -1)", x.setPins(-1, -1), -1);
        due.same("setPins(0, -1)", x.setPins(0, -1), -2);
        due.same("setPins(0, 256)", x.setPins(0, 256), -2);
        due.same("setPins(0, MIN)", x.setPins(0, Integer.MIN_VALUE), -2);
        due.same("a refused setPins", View.of(x), before);
        due.same("setPins(0, 255)", x.setPins(0, 255), 0);
        due.same("the pins, without the bits that are too high", x.chip(0, 3), 7);
        due.same("setPins(0, 10)", x.setPins(0, 10), 7);
        due.same("the pins", x.chip(0, 3), 2);
        due.same("setPins(1, 255)", x.setPins(1, 255), 0);
        due.same("the pins of eight cells", x.chip(1, 3), 255);
        due.same("setPins(0, 0)", x.setPins(0, 0), 2);
        due.same("the pins", x.chip(0, 3), 0);
        due.same("the data register does not change", x.chip(1, 8), 0);
        due.same("the outputs do not change", x.chip(1, 4), 0);
    }

    private static void breakChip() {
        due.promise("5 breakChip");
        ScanChain x = new ScanChain();
        due.same("breakChip(0, true) without chips", x.breakChip(0, true), -1);
        x.add(2, 0, 3);
        x.add(2, 0, 8);
        String before = View.of(x);
        due.same("breakChip(2, true)", x.breakChip(2, true), -1);
        due.same("breakChip(-1, false)", x.breakChip(-1, false), -1);
        due.same("a refused breakChip", View.of(x), before);
        due.same("breakChip(1, true)", x.breakChip(1, true), 1);
        due.same("again", x.breakChip(1, true), 1);
        due.same("breakChip(0, true)", x.breakChip(0, true), 2);
        due.same("count(1)", x.count(1), 2);
        due.same("breakChip(1, false)", x.breakChip(1, false), 1);
        due.same("chip(0, 5)", x.chip(0, 5), 1);
        due.same("chip(1, 5)", x.chip(1, 5), 0);
        x.breakChip(0, false);
        x.undo();
        due.same("breakChip is undone", x.chip(0, 5), 1);
    }

    private static void chip() {
        due.promise("18 chip");
        ScanChain x = new ScanChain();
        due.same("chip(0, 99) without chips", x.chip(0, 99), -1);
        x.add(5, 77, 6);
        x.setPins(0, 42);
        due.same("chip(0, -1)", x.chip(0, -1), -2);
        due.same("chip(0, 10)", x.chip(0, 10), -2);
        due.same("chip(0, MAX)", x.chip(0, Integer.MAX_VALUE), -2);
        due.same("chip(0, MIN)", x.chip(0, Integer.MIN_VALUE), -2);
        due.same("chip(1, -1)", x.chip(1, -1), -1);
        due.same("chip(-1, 0)", x.chip(-1, 0), -1);
        x.load(0, 0);
        x.exchange(0, 45);
        x.breakChip(0, true);
        due.same("a driven chip", View.chip(x, 0), "5 77 6 42 45 1 0 0 45 6");
        x.move(3);
        x.clock(0, 0);
        due.same("captured pins", View.chip(x, 0), "5 77 6 42 45 1 0 0 42 6");
        x.move(10);
        x.clock(0, 0);
        due.same("a captured code, behind a shift and an update on the way", View.chip(x, 0), "5 77 6 42 53 1 0 1 53 6");
        due.same("queries are not in the history", x.count(7), 4);
    }
}
