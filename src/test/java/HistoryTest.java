/** Promises 15 undo, 16 save, 17 restore, 19 count and 25 bypassed. */
public final class HistoryTest {
    private static final Due due = new Due("HistoryTest");

    public static void main(String[] args) {
        undoOfEveryAction();
        fiveRecords();
        refusedCallsAreNotRecorded();
        otherCallsAreNotRecorded();
        snapshot();
        snapshotAndUndo();
        keptIdentities();
        count();
        bypassed();
        due.end();
    }

    private static ScanChain used() {
        ScanChain x = new ScanChain();
        x.add(3, 9, 4);
        x.add(4, 0, 5);
        x.setPins(0, 11);
        x.load(0, 0);
        x.exchange(0, 7);
        x.breakChip(1, true);
        x.identify();
        View.write(x, "@4?0");
        x.save();
        x.move(4);
        return x;
    }

    private static void act(ScanChain x, int action) {
        switch (action) {
            case 0: x.add(2, 0, 1); break;
            case 1: x.take(0); break;
            case 2: x.setPins(0, 2); break;
            case 3: x.breakChip(0, true); break;
            case 4: x.clock(1, 1); break;
            case 5: x.move(9); break;
            case 6: x.identify(); break;
            case 7: x.load(0, 2); break;
            case 8: x.exchange(0, 3); break;
            case 9: x.run(); break;
            case 10: x.restore(); break;
            case 11: x.setPins(0, 11); break;
            case 12: x.breakChip(1, true); break;
            default: x.move(4); break;
        }
    }

    private static void undoOfEveryAction() {
        due.promise("15 undo");
        due.same("undo() of nothing", new ScanChain().undo(), -4);
        for (int action = 0; action <= 13; action++) {
            ScanChain x = used();
            while (x.count(7) > 0) {
                x.undo();
            }
            String before = View.of(x);
            act(x, action);
            due.same("action " + action + " is recorded", x.count(7), 1);
            due.same("undo() of action " + action, x.undo(), 0);
            due.same("undone action " + action, View.of(x), before);
            due.same("undo() of nothing", x.undo(), -4);
            due.same("undo of nothing", View.of(x), before);
        }
    }

    private static void fiveRecords() {
        due.promise("15 undo");
        ScanChain x = new ScanChain();
        String[] views = new String[8];
        for (int i = 0; i < 8; i++) {
            views[i] = View.system(x);
            due.same("count(7)", x.count(7), Math.min(i, 4));
            act(x, i == 0 || i == 4 ? 0 : i % 2 == 0 ? 6 : 7);
        }
        for (int left = 3; left >= 0; left--) {
            due.same("undo()", x.undo(), left);
            due.same("the state with " + left + " left", View.system(x), views[4 + left]);
        }
        due.same("undo() of the dropped ones", x.undo(), -4);
        x.add(2, 3, 4);
        due.same("a new action behind undo", x.count(7), 1);
        due.same("undo()", x.undo(), 0);
        due.same("the state", View.system(x), views[4]);
    }

    private static void refusedCallsAreNotRecorded() {
        due.promise("15 undo");
        ScanChain x = new ScanChain();
        for (int i = 0; i < 6; i++) {
            x.add(2, 0, 1);
        }
        while (x.undo() > 0) { }
        x.add(2, 0, 1);
        x.add(2, 0, 1);
        x.add(2, 0, 1);
        x.add(2, 0, 1);
        while (x.undo() > 0) { }
        String before = View.of(x);
        x.add(2, 0, 9);
        x.take(6);
        x.setPins(0, 256);
        x.breakChip(-1, true);
        x.clock(0, 2);
        x.move(16);
        x.load(0, 64);
        x.exchange(0, 256);
        x.run();
        x.restore();
        due.same("refused calls", View.of(x), before);
    }

    private static void otherCallsAreNotRecorded() {
        due.promise("15 undo");
        ScanChain x = used();
        x.undo();
        String before = View.of(x);
        x.save();
        x.ifIdentified();
        x.ifExchanged(0, 77);
        x.peek(0);
        x.distance(1, 9);
        x.found(0);
        x.bypassed();
        due.same("queries and save", View.of(x), before);
    }

    private static void snapshot() {
        due.promise("16 save");
        ScanChain x = new ScanChain();
        due.same("save() without chips", x.save(), 0);
        due.promise("17 restore");
        due.same("restore() of it", x.restore(), 0);
        due.same("restore is recorded", x.count(7), 1);
        x = used();
        int records = x.count(7);
        String kept = View.system(x);
        due.promise("16 save");
        due.same("save()", x.save(), 2);
        due.same("save is no action", x.count(7), records);
        for (int action = 0; action <= 9; action++) {
            act(x, action);
            due.promise("17 restore");
            due.same("restore()", x.restore(), 2);
            due.same("restored behind action " + action, View.system(x), kept);
        }
        x.clearText();
        x.restore();
        due.same("the text is not part of it", x.count(8), 0);
        x.take(1);
        due.promise("16 save");
        due.same("save() replaces", x.save(), 1);
        x.add(2, 0, 1);
        x.add(2, 0, 1);
        due.same("restore()", x.restore(), 1);
        x.take(0);
        due.same("restore() again", x.restore(), 1);
    }

    private static void snapshotAndUndo() {
        due.promise("17 restore");
        ScanChain x = new ScanChain();
        String before = View.of(x);
        due.same("restore() without a snapshot", x.restore(), -1);
        due.same("a refused restore", View.of(x), before);
        x.add(2, 9, 1);
        x.save();
        x.undo();
        due.same("undo does not change the snapshot", x.restore(), 1);
        due.same("the chip is there", x.chip(0, 1), 9);
        due.same("undo() of restore", x.undo(), 0);
        due.same("no chip is there", x.count(0), 0);
        due.same("restore() again", x.restore(), 1);
    }

    private static void keptIdentities() {
        ScanChain x = new ScanChain();
        x.add(2, 11, 1);
        x.add(2, 13, 1);
        x.identify();
        x.save();
        x.take(0);
        x.add(2, 15, 1);
        x.identify();
        due.same("the latest reading", x.found(0) * 1000 + x.found(1), 15013);
        due.promise("15 undo");
        x.undo();
        due.same("the reading behind undo", x.found(0) * 1000 + x.found(1), 13011);
        x.identify();
        due.promise("17 restore");
        x.restore();
        due.same("the reading behind restore", x.found(0) * 1000 + x.found(1), 13011);
        x.undo();
        due.same("the reading behind undo of restore", x.found(0) * 1000 + x.found(1), 15013);
    }

    private static void count() {
        due.promise("19 count");
        ScanChain x = new ScanChain();
        for (int bad : new int[] {-1, 9, 10, Integer.MIN_VALUE, Integer.MAX_VALUE}) {
            due.same("count(" + bad + ")", x.count(bad), -2);
        }
        x.add(3, 9, 4);
        x.add(4, 0, 5);
        x.add(6, 7, 2);
        x.breakChip(0, true);
        x.breakChip(2, true);
        View.write(x, "01?@");
        x.move(13);
        int[] wants = {3, 2, 13, 6, 13, 17, 0, 4, 4};
        for (int what = 0; what <= 8; what++) {
            due.same("count(" + what + ")", x.count(what), wants[what]);
        }
        x.breakChip(0, false);
        x.breakChip(2, false);
        x.load(1, 0);
        due.same("count(5) behind a load", x.count(5), 1 + 5 + 1);
        x.identify();
        due.same("count(6)", x.count(6), 3);
        due.same("count(2)", x.count(2), 1);
    }

    private static void bypassed() {
        due.promise("25 bypassed");
        ScanChain x = new ScanChain();
        due.sameFloat("bypassed() without chips", x.bypassed(), 0.0f);
        x.add(3, 9, 1);
        due.sameFloat("an identity is no bypass", x.bypassed(), 0.0f);
        ScanChain one = new ScanChain();
        one.add(3, 0, 1);
        due.sameFloat("one of one", one.bypassed(), 1.0f);
        x.add(3, 0, 1);
        due.sameFloat("one of two", x.bypassed(), 0.5f);
        x.add(3, 0, 1);
        due.sameFloat("two of three", x.bypassed(), 2.0f / 3.0f);
        x.load(1, 0);
        due.sameFloat("one cell is no bypass, though it has 1 bit", x.bypassed(), 2.0f / 3.0f);
        x.load(1, 2);
        due.sameFloat("sample", x.bypassed(), 2.0f / 3.0f);
        x.load(1, 1);
        due.sameFloat("the instruction 1 without an identity", x.bypassed(), 1.0f);
        x.add(2, 1, 1);
        x.add(2, 1, 1);
        due.sameFloat("three of five", x.bypassed(), 0.6f);
        x.add(2, 1, 1);
        due.sameFloat("three of six", x.bypassed(), 0.5f);
    }
}
