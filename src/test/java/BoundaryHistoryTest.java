/**
 * The boundary cases that the document's sentences on history and errors name, a test for each
 * sentence: the terms on actions, history and errors, and promises 15, 16, 17, 19 and 25.
 */
public final class BoundaryHistoryTest {
    private static final Due due = new Due("BoundaryHistoryTest");
    private static final int[] OUTSIDE = {Integer.MIN_VALUE, Integer.MIN_VALUE + 1, -65536, -256, -1, 65536, Integer.MAX_VALUE - 1, Integer.MAX_VALUE};
    private static final int ACTIONS = 11;
    private static final int REFUSALS = 33;

    public static void main(String[] args) {
        eachActionIsRecorded();
        noOtherCallIsRecorded();
        stateOfTheSystem();
        actionsThatChangeNothing();
        atMostFourRecords();
        theOldestIsDropped();
        droppingAndUndoByTurns();
        textIsNoPartOfIt();
        snapshotIsNoPartOfIt();
        historyIsNoPartOfIt();
        refusedCallsChangeNothing();
        refusedCallsOfAFullChain();
        refusedCallsOfAFullHistory();
        theFirstErrorIsReturned();
        constants();
        noneIsNoErrorCode();
        undoLeft();
        undoOfNothing();
        undoRemoves();
        undoKeepsTextAndSnapshot();
        saveReplaces();
        saveIsNoAction();
        saveOfNothing();
        saveAnswersTheChips();
        restoreKeepsTheSnapshot();
        restoreWithoutSnapshot();
        restoreIsAnAction();
        countRange();
        countLeast();
        countMost();
        queriesChangeNothing();
        bypassedWithoutChips();
        bypassedLeastAndMost();
        due.end();
    }

    private static int act(ScanChain x, int action) {
        switch (action) {
            case 0: return x.add(2, 0, 1);
            case 1: return x.take(0);
            case 2: return x.setPins(0, 2);
            case 3: return x.breakChip(0, true);
            case 4: return x.clock(1, 1);
            case 5: return x.move(9);
            case 6: return x.identify();
            case 7: return x.load(0, 2);
            case 8: return x.exchange(0, 3);
            case 9: return x.run();
            default: return x.restore();
        }
    }

    /** A call that is refused on a chain of two chips whose text is no script. */
    private static int refused(ScanChain x, int call) {
        switch (call) {
            case 0: return x.add(1, 0, 1);
            case 1: return x.add(7, 0, 1);
            case 2: return x.add(2, -1, 1);
            case 3: return x.add(2, 2, 1);
            case 4: return x.add(2, 254, 1);
            case 5: return x.add(2, 255, 1);
            case 6: return x.add(2, 0, 0);
            case 7: return x.add(2, 0, 9);
            case 8: return x.take(-1);
            case 9: return x.take(2);
            case 10: return x.setPins(-1, 0);
            case 11: return x.setPins(2, 0);
            case 12: return x.setPins(0, -1);
            case 13: return x.setPins(0, 256);
            case 14: return x.breakChip(-1, true);
            case 15: return x.breakChip(2, true);
            case 16: return x.clock(-1, 0);
            case 17: return x.clock(2, 0);
            case 18: return x.clock(0, -1);
            case 19: return x.clock(0, 2);
            case 20: return x.move(-1);
            case 21: return x.move(16);
            case 22: return x.load(-1, 0);
            case 23: return x.load(2, 0);
            case 24: return x.load(0, -1);
            case 25: return x.load(0, 64);
            case 26: return x.exchange(-1, 0);
            case 27: return x.exchange(2, 0);
            case 28: return x.exchange(0, -1);
            case 29: return x.exchange(0, 256);
            case 30: return x.append(31);
            case 31: return x.append(127);
            default: return x.run();
        }
    }

    private static void forgetHistory(ScanChain x) {
        for (int left = x.count(7); left > 0; left--) {
            x.undo();
        }
    }

    // ---- the terms

    private static void eachActionIsRecorded() {
        due.sentence("The actions are add, take, setPins, breakChip, clock, move, identify, load, exchange, run and restore.");
        for (int action = 0; action < ACTIONS; action++) {
            ScanChain x = Chains.used();
            forgetHistory(x);
            String before = View.of(x);
            due.same("action " + action + " is not refused", act(x, action) >= 0 ? 1 : 0, 1);
            due.same("action " + action + " is recorded", x.count(7), 1);
            due.same("undo() of action " + action, x.undo(), 0);
            due.same("behind undo() of action " + action, View.of(x), before);
        }
    }

    private static void noOtherCallIsRecorded() {
        due.sentence("The actions are add, take, setPins, breakChip, clock, move, identify, load, exchange, run and restore.");
        ScanChain x = Chains.used();
        forgetHistory(x);
        x.append('0');
        x.fault();
        x.clearText();
        x.save();
        x.undo();
        x.chip(0, 0);
        x.count(0);
        x.found(0);
        x.distance(0, 9);
        x.peek(0);
        x.ifIdentified();
        x.ifExchanged(0, 3);
        x.bypassed();
        due.same("the length of the history", x.count(7), 0);
    }

    private static void stateOfTheSystem() {
        due.sentence("The state of the system consists of the chips with all that belongs to them, the state of the controller, the identities that the master keeps, and the number of clocks so far.");
        ScanChain x = Chains.used();
        String before = View.system(x);
        x.save();
        x.setPins(0, 0);
        x.breakChip(0, true);
        x.load(1, 2);
        x.exchange(1, 31);
        x.take(0);
        x.add(6, 1, 1);
        x.identify();
        x.move(13);
        x.restore();
        due.same("restored", View.system(x), before);
        x.take(0);
        x.undo();
        due.same("a chip that was taken out comes back with all", View.system(x), before);
        x.add(6, 1, 1);
        x.undo();
        due.same("a chip that was added goes", View.system(x), before);
        x.identify();
        x.undo();
        due.same("the kept identities and the clocks come back", View.system(x), before);
        ScanChain none = new ScanChain();
        none.add(2, 9, 1);
        none.identify();
        none.undo();
        none.undo();
        due.same("the number of clocks so far", none.count(3), 0);
        due.same("no identities are kept", none.count(6), 0);
    }

    private static void actionsThatChangeNothing() {
        due.sentence("Each action that returns no error code records the state of the system before it in the history, even if the action changes nothing.");
        ScanChain x = Chains.of(2, 9, 4);
        x.setPins(0, 11);
        x.breakChip(0, true);
        View.write(x, "@0");
        x.save();
        due.same("the records of setPins", recorded(x, 0), 1);
        due.same("the records of breakChip", recorded(x, 1), 1);
        due.same("the records of move", recorded(x, 2), 1);
        due.same("the records of run", recorded(x, 3), 1);
        due.same("the records of restore", recorded(x, 4), 1);
    }

    /** Carries out an action that changes nothing and answers how many records it made. */
    private static int recorded(ScanChain x, int action) {
        x.setPins(0, 11);
        x.undo();
        int records = x.count(7);
        String before = View.system(x);
        switch (action) {
            case 0: x.setPins(0, 11); break;
            case 1: x.breakChip(0, true); break;
            case 2: x.move(0); break;
            case 3: x.run(); break;
            default: x.restore(); break;
        }
        due.same("it changes nothing", View.system(x), before);
        int made = x.count(7) - records;
        x.undo();
        return made;
    }

    private static void atMostFourRecords() {
        due.sentence("The history holds at most 4 of these");
        for (int actions = 0; actions <= 9; actions++) {
            ScanChain x = new ScanChain();
            Chains.clocks(x, actions, 0, 1);
            due.same("count(7) behind " + actions + " actions", x.count(7), Math.min(actions, 4));
            for (int left = Math.min(actions, 4) - 1; left >= 0; left--) {
                due.same("undo() behind " + actions + " actions", x.undo(), left);
            }
            due.same("undo() of nothing behind " + actions + " actions", x.undo(), -4);
            due.same("the clocks that can't be undone", x.count(3), Math.max(actions - 4, 0));
        }
    }

    private static void theOldestIsDropped() {
        due.sentence("when a fifth one is recorded, the oldest one is dropped");
        for (int actions = 4; actions <= 13; actions++) {
            ScanChain x = Chains.of(2, 0, 8);
            for (int pins = 1; pins <= actions; pins++) {
                x.setPins(0, pins);
            }
            for (int back = 1; back <= 4; back++) {
                due.same("undo()", x.undo(), 4 - back);
                due.same("the pins " + back + " back behind " + actions, x.chip(0, 3), actions - back);
            }
            due.same("undo() of those that were dropped", x.undo(), -4);
            due.same("the pins stay", x.chip(0, 3), actions - 4);
            x.setPins(0, 200);
            due.same("one record behind the undos", x.count(7), 1);
            x.undo();
            due.same("it is the right one", x.chip(0, 3), actions - 4);
        }
    }

    private static void droppingAndUndoByTurns() {
        due.sentence("when a fifth one is recorded, the oldest one is dropped");
        for (int undone = 1; undone <= 4; undone++) {
            ScanChain x = new ScanChain();
            int clocks = 0;
            int records = 0;
            for (int turn = 0; turn < 12; turn++) {
                Chains.clocks(x, 3, 0, 1);
                clocks += 3;
                records = Math.min(records + 3, 4);
                for (int back = 0; back < undone; back++) {
                    due.same("undo() in the turn " + turn, x.undo(), records > 0 ? records - 1 : -4);
                    clocks -= records > 0 ? 1 : 0;
                    records = Math.max(records - 1, 0);
                    due.same("the clocks in the turn " + turn, x.count(3), clocks);
                }
            }
        }
    }

    private static void textIsNoPartOfIt() {
        due.sentence("The text, the snapshot and the history itself are not part of it.");
        ScanChain x = new ScanChain();
        View.write(x, "@5");
        x.save();
        x.clock(0, 1);
        x.clearText();
        View.write(x, "@1@2");
        x.undo();
        due.same("the text behind undo", x.count(8), 4);
        x.restore();
        due.same("the text behind restore", x.count(8), 4);
        x.run();
        due.same("it is the later one", x.count(2), 2);
        x.clearText();
        x.undo();
        due.same("an emptied text behind undo", x.count(8), 0);
        x.restore();
        due.same("an emptied text behind restore", x.fault(), 0);
    }

    private static void snapshotIsNoPartOfIt() {
        due.sentence("The text, the snapshot and the history itself are not part of it.");
        ScanChain x = Chains.of(2, 9, 1);
        x.save();
        x.undo();
        due.same("a snapshot that is later than the state undone to", x.restore(), 1);
        x.add(2, 11, 1);
        x.save();
        x.undo();
        x.undo();
        due.same("the later snapshot stays behind two undos", x.restore(), 2);
        due.same("its chip", x.chip(1, 1), 11);
    }

    private static void historyIsNoPartOfIt() {
        due.sentence("The text, the snapshot and the history itself are not part of it.");
        ScanChain x = new ScanChain();
        x.save();
        Chains.clocks(x, 3, 0, 1);
        x.restore();
        due.same("restore adds to the history", x.count(7), 4);
        x.undo();
        due.same("undo takes from it", x.count(7), 3);
        due.same("the clocks", x.count(3), 3);
        x.restore();
        x.restore();
        due.same("a full history stays full", x.count(7), 4);
        due.same("undo()", x.undo(), 3);
        due.same("the clocks behind undo of restore", x.count(3), 0);
        due.same("undo()", x.undo(), 2);
        due.same("the clocks behind undo of both", x.count(3), 3);
        due.same("undo()", x.undo(), 1);
        due.same("the clocks behind one undo more", x.count(3), 2);
    }

    private static void refusedCallsChangeNothing() {
        due.sentence("A method that returns an error code changes nothing.");
        ScanChain other = Chains.used();
        other.append('@');
        String want = View.whole(other);
        for (int call = 0; call < REFUSALS; call++) {
            ScanChain x = Chains.used();
            x.append('@');
            int answer = refused(x, call);
            due.same("call " + call + " is refused", answer == -1 || answer == -2 || answer == -105 ? 1 : 0, 1);
            due.same("behind the refused call " + call, View.whole(x), want);
        }
        ScanChain none = new ScanChain();
        String before = View.of(none);
        due.same("restore() without a snapshot", none.restore(), -1);
        due.same("behind the refused restore", View.of(none), before);
        due.same("restore() is refused still", none.restore(), -1);
    }

    private static void refusedCallsOfAFullChain() {
        due.sentence("A method that returns an error code changes nothing.");
        ScanChain x = Chains.same(6, 3, 9, 4);
        View.write(x, "0".repeat(80));
        String before = View.of(x);
        due.same("add(2, 0, 1)", x.add(2, 0, 1), -3);
        due.same("append('@')", x.append('@'), -3);
        due.same("behind the refused calls", View.of(x), before);
        for (int left = 3; left >= 0; left--) {
            due.same("undo()", x.undo(), left);
            due.same("the chips", x.count(0), 2 + left);
        }
    }

    private static void refusedCallsOfAFullHistory() {
        due.sentence("Each action that returns no error code records the state");
        ScanChain x = new ScanChain();
        Chains.clocks(x, 4, 0, 1);
        due.same("clock(2, 0)", x.clock(2, 0), -2);
        due.same("take(0)", x.take(0), -1);
        due.same("restore()", x.restore(), -1);
        due.same("run()", x.run(), -100);
        for (int left = 3; left >= 0; left--) {
            due.same("undo()", x.undo(), left);
            due.same("the clocks", x.count(3), left);
        }
    }

    private static void theFirstErrorIsReturned() {
        due.sentence("The error codes of a method are listed in the order in which they are checked, and the first one that applies is returned.");
        ScanChain x = Chains.same(6, 2, 0, 1);
        View.write(x, "0".repeat(80));
        due.same("add(1, 0, 1) to 6 chips", x.add(1, 0, 1), -2);
        due.same("add(2, 254, 1) to 6 chips", x.add(2, 254, 1), -2);
        due.same("add(2, 0, 0) to 6 chips", x.add(2, 0, 0), -2);
        due.same("append(127) to 80 characters", x.append(127), -2);
        due.same("setPins(6, 256)", x.setPins(6, 256), -1);
        due.same("load(6, 64)", x.load(6, 64), -1);
        due.same("exchange(6, 256)", x.exchange(6, 256), -1);
        due.same("ifExchanged(6, 256)", x.ifExchanged(6, 256), -1);
        due.same("chip(6, 10)", x.chip(6, 10), -1);
        due.same("setPins(-1, -1)", x.setPins(-1, -1), -1);
        due.same("load(-1, -1)", x.load(-1, -1), -1);
        due.same("exchange(-1, -1)", x.exchange(-1, -1), -1);
        due.same("ifExchanged(-1, -1)", x.ifExchanged(-1, -1), -1);
        due.same("chip(-1, -1)", x.chip(-1, -1), -1);
    }

    private static void constants() {
        due.sentence("The constants: NO_SUCH = -1, BAD_VALUE = -2, TOO_MANY = -3, NONE = -4");
        due.same("NO_SUCH", ScanChain.NO_SUCH, -1);
        due.same("BAD_VALUE", ScanChain.BAD_VALUE, -2);
        due.same("TOO_MANY", ScanChain.TOO_MANY, -3);
        due.same("NONE", ScanChain.NONE, -4);
    }

    private static void noneIsNoErrorCode() {
        due.sentence("NONE is not an error code.");
        ScanChain x = new ScanChain();
        due.same("undo()", x.undo(), ScanChain.NONE);
        due.same("found(0)", x.found(0), ScanChain.NONE);
        x.append('0');
        due.same("fault()", x.fault(), ScanChain.NONE);
        due.same("run() of a text without a fault", x.run(), 0);
        due.same("it is recorded", x.count(7), 1);
    }

    // ---- the promises

    private static void undoLeft() {
        due.sentence("15: Returns the number of those that are left in the history");
        ScanChain x = Chains.same(6, 2, 0, 1);
        for (int left = 3; left >= 0; left--) {
            due.same("undo()", x.undo(), left);
            due.same("count(7)", x.count(7), left);
            due.same("count(0)", x.count(0), 2 + left);
        }
    }

    private static void undoOfNothing() {
        due.sentence("15: NONE if the history is empty");
        ScanChain fresh = new ScanChain();
        String before = View.of(fresh);
        due.same("undo() of a new object", fresh.undo(), -4);
        due.same("undo() once more", fresh.undo(), -4);
        due.same("behind undo() of nothing", View.of(fresh), before);
        fresh.add(2, 9, 1);
        due.same("undo() of one action", fresh.undo(), 0);
        due.same("undo() of nothing", fresh.undo(), -4);
        ScanChain x = Chains.used();
        forgetHistory(x);
        before = View.of(x);
        due.same("undo() with an emptied history", x.undo(), -4);
        due.same("behind it", View.of(x), before);
    }

    private static void undoRemoves() {
        due.sentence("15: Restores the latest state of the system in the history and removes it from the history.");
        ScanChain x = Chains.of(2, 0, 8);
        x.setPins(0, 1);
        x.setPins(0, 2);
        due.same("undo()", x.undo(), 2);
        x.setPins(0, 3);
        due.same("count(7)", x.count(7), 3);
        due.same("undo()", x.undo(), 2);
        due.same("undo() goes back to the state ahead of the latest action", x.chip(0, 3), 1);
        due.same("undo()", x.undo(), 1);
        due.same("and then to the one before", x.chip(0, 3), 0);
        due.same("undo() is not an action", x.count(7), 1);
    }

    private static void undoKeepsTextAndSnapshot() {
        due.sentence("15: The text and the snapshot do not change.");
        ScanChain x = new ScanChain();
        String before = View.system(x);
        x.add(6, 253, 8);
        x.save();
        View.write(x, "b".repeat(80));
        due.same("undo()", x.undo(), 0);
        due.same("the system is as it was at first", View.system(x), before);
        due.same("the text stays", x.count(8), 80);
        due.same("the snapshot stays", x.restore(), 1);
    }

    private static void saveReplaces() {
        due.sentence("16: Takes a snapshot of the state of the system, which replaces the previous snapshot.");
        ScanChain x = Chains.same(6, 3, 9, 4);
        x.identify();
        x.save();
        for (int chips = 5; chips >= 0; chips--) {
            x.take(0);
        }
        due.same("save() of nothing", x.save(), 0);
        x.add(2, 0, 1);
        due.same("restore() of nothing", x.restore(), 0);
        due.same("the chips", x.count(0), 0);
        due.same("the identities", x.count(6), 6);
        x.identify();
        x.save();
        x.add(2, 0, 1);
        x.identify();
        due.same("restore()", x.restore(), 0);
        due.same("no identities", x.count(6), 0);
    }

    private static void saveIsNoAction() {
        due.sentence("16: This is not an action.");
        ScanChain x = new ScanChain();
        x.save();
        due.same("save() in an empty history", x.count(7), 0);
        due.same("undo()", x.undo(), -4);
        Chains.clocks(x, 4, 0, 1);
        x.save();
        due.same("save() in a full history", x.count(7), 4);
        due.same("undo()", x.undo(), 3);
        due.same("undo of the clock, not of save", x.count(3), 3);
    }

    private static void saveOfNothing() {
        due.sentence("16: Takes a snapshot");
        ScanChain x = new ScanChain();
        due.same("save() of a new object", x.save(), 0);
        String before = View.system(x);
        x.add(2, 9, 1);
        x.identify();
        due.same("restore() of a snapshot without chips", x.restore(), 0);
        due.same("the system is as it was at first", View.system(x), before);
    }

    private static void saveAnswersTheChips() {
        due.sentence("16: Returns the number of chips.");
        for (int chips = 0; chips <= 6; chips++) {
            ScanChain x = Chains.same(chips, 2, 0, 1);
            due.same("save() of " + chips + " chips", x.save(), chips);
            x.take(0);
            due.same("restore() of " + chips + " chips", x.restore(), chips);
            due.same("count(0)", x.count(0), chips);
        }
    }

    private static void restoreKeepsTheSnapshot() {
        due.sentence("17: The snapshot remains.");
        ScanChain x = Chains.used();
        x.save();
        String kept = View.system(x);
        for (int action = 0; action < ACTIONS; action++) {
            act(x, action);
            due.same("restore() behind action " + action, x.restore(), 2);
        }
        due.same("the system of the snapshot", View.system(x), kept);
        due.same("restore() once more", x.restore(), 2);
        due.same("the system of the snapshot", View.system(x), kept);
    }

    private static void restoreWithoutSnapshot() {
        due.sentence("17: NO_SUCH if there is no snapshot");
        ScanChain x = new ScanChain();
        due.same("restore() of a new object", x.restore(), -1);
        x.add(2, 0, 1);
        String before = View.of(x);
        due.same("restore() behind an action", x.restore(), -1);
        due.same("behind the refused restore", View.of(x), before);
        x.undo();
        due.same("restore() behind undo", x.restore(), -1);
        x.save();
        due.same("restore() behind save", x.restore(), 0);
        due.same("another object has none", new ScanChain().restore(), -1);
    }

    private static void restoreIsAnAction() {
        due.sentence("17: Restores the state of the system of the snapshot.");
        ScanChain x = Chains.used();
        String before = View.system(x);
        due.same("restore()", x.restore(), 2);
        due.same("undo() of restore", x.undo(), 3);
        due.same("the system behind undo", View.system(x), before);
    }

    private static void countRange() {
        due.sentence("19: BAD_VALUE if what is out of range");
        for (int chips = 0; chips <= 6; chips += 6) {
            ScanChain x = Chains.same(chips, 2, 0, 1);
            due.same("count(0)", x.count(0), chips);
            due.same("count(8)", x.count(8), 0);
            due.same("count(9)", x.count(9), -2);
            due.same("count(10)", x.count(10), -2);
            for (int bad : OUTSIDE) {
                due.same("count(" + bad + ")", x.count(bad), -2);
            }
        }
    }

    private static void countLeast() {
        due.sentence("19: Returns a number about the whole system.");
        for (int what = 0; what <= 8; what++) {
            due.same("count(" + what + ") of a new object", new ScanChain().count(what), 0);
        }
        ScanChain one = Chains.of(2, 0, 8);
        int[] wants = {1, 0, 0, 0, 2, 1, 0, 1, 0};
        for (int what = 0; what <= 8; what++) {
            due.same("count(" + what + ") of the least chip", one.count(what), wants[what]);
        }
        one.take(0);
        due.same("the sums without the chip", one.count(4) + one.count(5), 0);
    }

    private static void countMost() {
        due.sentence("19: what: 0 for the number of chips, 1 of broken chips, 2 for the state of the controller, ..., 8 for the length of the text");
        ScanChain x = Chains.same(6, 6, 253, 8);
        x.identify();
        for (int place = 0; place < 6; place++) {
            x.breakChip(place, true);
        }
        x.move(15);
        View.write(x, "0".repeat(80));
        int[] wants = {6, 6, 15, 5 + 4 + 48 + 8 + 3 + 5, 36, 48, 6, 4, 80};
        for (int what = 0; what <= 8; what++) {
            due.same("count(" + what + ") of the fullest system", x.count(what), wants[what]);
        }
        ScanChain bypasses = Chains.same(6, 2, 0, 8);
        due.same("the least sum of six codes", bypasses.count(4), 12);
        due.same("the least sum of six registers", bypasses.count(5), 6);
    }

    private static void queriesChangeNothing() {
        due.sentence("queries; they change nothing");
        ScanChain asked = Chains.used();
        for (int number = -1; number <= 16; number++) {
            asked.chip(0, number);
            asked.chip(number, 0);
            asked.count(number);
            asked.found(number);
            asked.distance(number, 5);
            asked.distance(5, number);
            asked.peek(number);
        }
        asked.bypassed();
        asked.fault();
        due.same("a chain that the queries were asked of", View.whole(asked), View.whole(Chains.used()));
    }

    private static void bypassedWithoutChips() {
        due.sentence("25: 0.0f without chips");
        due.sameFloat("bypassed() of a new object", new ScanChain().bypassed(), 0.0f);
        ScanChain x = Chains.of(2, 0, 1);
        x.take(0);
        due.sameFloat("bypassed() when the last chip has gone", x.bypassed(), 0.0f);
    }

    private static void bypassedLeastAndMost() {
        due.sentence("25: Returns the number of chips whose data register is the bypass, as a float, divided by the number of chips");
        for (int chips = 1; chips <= 6; chips++) {
            for (int bypasses = 0; bypasses <= chips; bypasses++) {
                ScanChain x = new ScanChain();
                for (int place = 0; place < chips; place++) {
                    x.add(2, place < bypasses ? 0 : 9, 1);
                }
                due.sameFloat("bypassed() with " + bypasses + " of " + chips, x.bypassed(), (float) bypasses / (float) chips);
            }
            ScanChain y = Chains.same(chips, 2, 9, 1);
            y.load(0, 0);
            due.sameFloat("one cell of one bit is no bypass", y.bypassed(), (float) (chips - 1) / (float) chips);
            y.load(0, 3);
            due.sameFloat("all of " + chips, y.bypassed(), 1.0f);
        }
    }
}
