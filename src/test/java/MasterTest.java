/** Promises 8 identify, 9 load, 10 exchange, 20 found, 23 ifIdentified, 24 ifExchanged. */
public final class MasterTest {
    private static final Due due = new Due("MasterTest");

    public static void main(String[] args) {
        identifyWithoutChips();
        identifyAll();
        identifyBroken();
        identifyFromEveryState();
        found();
        badLoads();
        load();
        loadBroken();
        badExchanges();
        exchange();
        exchangeFromEveryState();
        fullChain();
        due.end();
    }

    private static void identifyWithoutChips() {
        due.promise("8 identify");
        ScanChain x = new ScanChain();
        due.same("identify()", x.identify(), 0);
        due.same("the clocks: 5, a move of 4, a byte of 1, a move of 3", x.count(3), 20);
        due.same("the state", x.count(2), 1);
        due.same("it is recorded", x.count(7), 1);
    }

    private static void identifyAll() {
        due.promise("8 identify");
        ScanChain x = new ScanChain();
        int[] identities = {0, 253, 1, 0, 127, 0};
        for (int identity : identities) {
            x.add(3, identity, 2);
        }
        due.same("identify()", x.identify(), 6);
        for (int index = 0; index < 6; index++) {
            due.same("found(" + index + "), the last chip first", x.found(index), identities[5 - index]);
        }
        due.same("found(6)", x.found(6), -4);
        due.same("count(6)", x.count(6), 6);
        due.same("the clocks", x.count(3), 5 + 4 + 3 * 8 + 3 + 8 + 3);
        x.take(5);
        due.same("a second reading", x.identify(), 5);
        due.same("the latest reading is kept", x.found(0), 127);
        due.same("the latest reading is kept", x.found(5), -4);
    }

    private static void identifyBroken() {
        due.promise("8 identify");
        ScanChain x = new ScanChain();
        x.add(2, 9, 1);
        x.add(2, 0, 1);
        x.add(2, 77, 1);
        x.breakChip(1, true);
        due.same("identify()", x.identify(), 1);
        due.same("found(0)", x.found(0), 77);
        x.breakChip(2, true);
        due.same("ifIdentified()", x.ifIdentified(), 0);
        due.same("found(0) stays", x.found(0), 77);
        due.same("identify()", x.identify(), 0);
        due.same("found(0) is forgotten", x.found(0), -4);
        x.breakChip(2, false);
        x.breakChip(1, false);
        x.breakChip(0, true);
        due.same("a broken first chip", x.identify(), 2);
        due.same("found(1)", x.found(1), 0);
    }

    private static void identifyFromEveryState() {
        for (int state = 0; state < 16; state++) {
            ScanChain x = new ScanChain();
            x.add(4, 201, 6);
            x.add(3, 0, 2);
            x.load(0, 0);
            x.setPins(0, 33);
            x.move(state);
            String before = View.of(x);
            due.promise("23 ifIdentified");
            due.same("ifIdentified() in " + state, x.ifIdentified(), 2);
            due.same("ifIdentified() changes nothing", View.of(x), before);
            due.promise("8 identify");
            due.same("identify() in " + state, x.identify(), 2);
            due.same("found(1)", x.found(1), 201);
            due.same("the first instruction", x.chip(0, 6), 1);
            due.same("the state", x.count(2), 1);
        }
    }

    private static void found() {
        due.promise("20 found");
        ScanChain x = new ScanChain();
        due.same("found(-1)", x.found(-1), -2);
        due.same("found(MIN)", x.found(Integer.MIN_VALUE), -2);
        due.same("found(0)", x.found(0), -4);
        due.same("found(8)", x.found(8), -4);
        due.same("found(MAX)", x.found(Integer.MAX_VALUE), -4);
        x.add(2, 5, 1);
        due.same("found(0) ahead of a reading", x.found(0), -4);
        x.identify();
        due.same("found(0)", x.found(0), 5);
        due.same("found(1)", x.found(1), -4);
        due.same("found(-1)", x.found(-1), -2);
        x.undo();
        due.same("found(0) behind undo", x.found(0), -4);
    }

    private static void badLoads() {
        due.promise("9 load");
        ScanChain x = new ScanChain();
        due.same("load(0, 99) without chips", x.load(0, 99), -1);
        x.add(2, 0, 1);
        String before = View.of(x);
        due.same("load(1, 0)", x.load(1, 0), -1);
        due.same("load(-1, -1)", x.load(-1, -1), -1);
        due.same("load(0, -1)", x.load(0, -1), -2);
        due.same("load(0, 64)", x.load(0, 64), -2);
        due.same("load(0, MIN)", x.load(0, Integer.MIN_VALUE), -2);
        due.same("a refused load", View.of(x), before);
    }

    private static void load() {
        due.promise("9 load");
        ScanChain x = new ScanChain();
        x.add(2, 9, 4);
        x.add(6, 0, 7);
        x.add(3, 5, 2);
        due.same("load(1, 0)", x.load(1, 0), 7);
        due.same("instructions", instructions(x), "3 0 7");
        due.same("the clocks: a move of 5, 11 bits, a move of 2", x.count(3), 5 + 11 + 2);
        due.same("the state", x.count(2), 1);
        due.same("load(1, 63)", x.load(1, 63), 1);
        due.same("instructions", instructions(x), "3 63 7");
        due.same("load(1, 33), no short code", x.load(1, 33), 1);
        due.same("instructions", instructions(x), "3 33 7");
        due.same("load(0, 62), of which 2 is left", x.load(0, 62), 4);
        due.same("instructions", instructions(x), "2 63 7");
        due.same("load(2, 57), of which 1 is left", x.load(2, 57), 8);
        due.same("instructions", instructions(x), "3 63 1");
        due.same("load(2, 6)", x.load(2, 6), 1);
        due.same("instructions", instructions(x), "3 63 6");
        x.move(11);
        x.clock(0, 0);
        int clocks = x.count(3);
        due.same("load from the state 11", x.load(1, 2), 7);
        due.same("its clocks", x.count(3), clocks + 11 + 2);
        due.same("instructions", instructions(x), "3 2 7");
        due.same("the data register becomes 0", x.chip(1, 8), 0);
    }

    private static void loadBroken() {
        due.promise("9 load");
        ScanChain x = new ScanChain();
        x.add(2, 9, 4);
        x.add(3, 9, 5);
        x.breakChip(0, true);
        due.same("load behind a broken chip", x.load(1, 0), 1);
        due.same("instructions", instructions(x), "3 7");
        due.same("load of the broken chip", x.load(0, 0), 4);
        due.same("instructions", instructions(x), "0 7");
    }

    private static String instructions(ScanChain x) {
        StringBuilder all = new StringBuilder();
        for (int place = 0; place < x.count(0); place++) {
            all.append(place == 0 ? "" : " ").append(x.chip(place, 6));
        }
        return all.toString();
    }

    private static void badExchanges() {
        ScanChain x = new ScanChain();
        due.promise("10 exchange");
        due.same("exchange(0, 999) without chips", x.exchange(0, 999), -1);
        due.promise("24 ifExchanged");
        due.same("ifExchanged(0, 999) without chips", x.ifExchanged(0, 999), -1);
        x.add(2, 0, 1);
        String before = View.of(x);
        int[][] bad = {{1, 0, -1}, {-1, -1, -1}, {0, -1, -2}, {0, 256, -2}, {0, Integer.MAX_VALUE, -2}, {Integer.MIN_VALUE, 0, -1}};
        for (int[] b : bad) {
            due.promise("10 exchange");
            due.same("exchange(" + b[0] + ", " + b[1] + ")", x.exchange(b[0], b[1]), b[2]);
            due.promise("24 ifExchanged");
            due.same("ifExchanged(" + b[0] + ", " + b[1] + ")", x.ifExchanged(b[0], b[1]), b[2]);
        }
        due.same("a refused exchange", View.of(x), before);
    }

    private static void exchange() {
        due.promise("10 exchange");
        ScanChain x = new ScanChain();
        x.add(2, 9, 8);
        x.add(4, 0, 5);
        x.add(3, 77, 3);
        x.setPins(1, 25);
        x.load(1, 0);
        int clocks = x.count(3);
        due.same("exchange(1, 255)", x.exchange(1, 255), 25);
        due.same("the clocks: a move of 3, 7 bits, a move of 2", x.count(3), clocks + 3 + 7 + 2);
        due.same("the outputs, without the bits that are too high", x.chip(1, 4), 31);
        due.same("the others get 0", x.chip(0, 8) + x.chip(2, 8), 0);
        due.same("the state", x.count(2), 1);
        due.same("exchange(1, 6)", x.exchange(1, 6), 25);
        due.same("the outputs", x.chip(1, 4), 6);
        due.same("exchange of a bypass", x.exchange(0, 255), 0);
        due.same("its register", x.chip(0, 8), 1);
        x.load(2, 1);
        due.same("exchange of an identity", x.exchange(2, 200), 77);
        due.same("its register", x.chip(2, 8), 200);
        x.breakChip(1, true);
        due.same("exchange ahead of a broken chip: the bits come through the broken one", x.exchange(0, 0), 1);
        due.same("exchange of the last chip", x.exchange(2, 0), 77);
    }

    private static void exchangeFromEveryState() {
        for (int state = 0; state < 16; state++) {
            ScanChain x = new ScanChain();
            x.add(3, 0x59, 6);
            x.add(2, 0, 4);
            x.setPins(0, 38);
            x.setPins(1, 11);
            x.load(1, 2);
            x.move(4);
            x.clock(0, 1);
            x.clock(0, 0);
            x.move(state);
            for (int place = 0; place < 2; place++) {
                x.save();
                String before = View.of(x);
                due.promise("24 ifExchanged");
                int foretold = x.ifExchanged(place, 0xB6);
                due.same("ifExchanged changes nothing", View.of(x), before);
                due.promise("10 exchange");
                String want = byHand(x, place, 0xB6);
                x.undo();
                int got = x.exchange(place, 0xB6);
                due.same("exchange(" + place + ", 182) in " + state, got + " " + View.system(x), want);
                due.promise("24 ifExchanged");
                due.same("ifExchanged(" + place + ", 182) in " + state, foretold, got);
                x.restore();
            }
        }
    }

    private static void fullChain() {
        ScanChain x = new ScanChain();
        for (int place = 0; place < 6; place++) {
            x.add(2 + place % 5, 0, 8 - place);
            x.setPins(place, 0x95);
        }
        for (int place = 0; place < 6; place++) {
            due.promise("9 load");
            due.same("load(" + place + ", 0) of six", x.load(place, 0), 8 - place);
            due.same("the other chips are bypassed", x.count(5), 5 + 8 - place);
            due.promise("10 exchange");
            due.same("exchange(" + place + ", 255) of six", x.exchange(place, 255), 0x95 & (1 << 8 - place) - 1);
            due.same("the outputs", x.chip(place, 4), (1 << 8 - place) - 1);
        }
    }

    /** An exchange by single clocks, with one undo for all of them: a restore records just the state ahead. */
    private static String byHand(ScanChain x, int place, int data) {
        x.move(4);
        int old = 0;
        for (int at = x.count(0) - 1; at >= 0; at--) {
            int bits = x.chip(at, 9);
            for (int bit = 0; bit < bits; bit++) {
                int input = at == place ? data >> bit & 1 : 0;
                int output = x.clock(at == 0 && bit == bits - 1 ? 1 : 0, input);
                old |= at == place ? output << bit : 0;
            }
        }
        x.move(1);
        String view = old + " " + View.system(x);
        x.restore();
        x.move(x.count(2));
        return view;
    }
}
