/** Promises 11 append, 12 clearText, 13 fault and 14 run. */
public final class TextTest {
    private static final Due due = new Due("TextTest");

    public static void main(String[] args) {
        append();
        clearText();
        faults();
        faultOfEveryCharacter();
        fullText();
        runs();
        noted();
        itemsAreClocks();
        due.end();
    }

    private static void append() {
        due.promise("11 append");
        ScanChain x = new ScanChain();
        for (int bad : new int[] {31, 127, 0, -1, 128, 48 + 65536, Integer.MIN_VALUE, Integer.MAX_VALUE}) {
            due.same("append(" + bad + ")", x.append(bad), -2);
        }
        due.same("append(32)", x.append(32), 1);
        due.same("append(126)", x.append(126), 2);
        for (int length = 3; length <= 80; length++) {
            due.same("append(48)", x.append(48), length);
        }
        due.same("append(48) to 80 characters", x.append(48), -3);
        due.same("append(31) to 80 characters", x.append(31), -2);
        due.same("count(8)", x.count(8), 80);
        due.same("append is no action", x.count(7), 0);
    }

    private static void clearText() {
        due.promise("12 clearText");
        ScanChain x = new ScanChain();
        due.same("clearText() of nothing", x.clearText(), 0);
        View.write(x, "01a");
        due.same("clearText()", x.clearText(), 3);
        due.same("count(8)", x.count(8), 0);
        due.same("fault()", x.fault(), 0);
        due.same("append(63)", x.append(63), 1);
        due.same("clearText is no action", x.count(7), 0);
    }

    private static void faults() {
        due.promise("13 fault");
        String[] texts = {"", "0", "1", "a", "b", "?", "@", "@0", "@f", "@a@", "@@", "@g", "@F", "@/", "@:", "@`",
            "0 1", "01ab?@b", "c", "2", "A", "0@", "0@x", "00@11@2", "00@11@", "00@1x", " ", "?!", "@ ", "@?"};
        int[] wants = {0, -4, -4, -4, -4, -4, 1, -4, -4, 3, 1, 1, 1, 1, 1, 1,
            1, -4, 0, 0, 0, 2, 2, -4, 6, 4, 0, 1, 1, 1};
        for (int i = 0; i < texts.length; i++) {
            ScanChain x = new ScanChain();
            View.write(x, texts[i]);
            due.same("fault() of '" + texts[i] + "'", x.fault(), wants[i]);
            due.same("fault() is no action", x.count(7), 0);
            due.promise("14 run");
            due.same("run() of '" + texts[i] + "'", x.run() < 0 ? 1 : 0, wants[i] == -4 ? 0 : 1);
            due.promise("13 fault");
        }
    }

    private static void faultOfEveryCharacter() {
        due.promise("13 fault");
        for (int character = 32; character <= 126; character++) {
            boolean isItem = "01ab?".indexOf(character) >= 0;
            boolean isHex = "0123456789abcdef".indexOf(character) >= 0;
            ScanChain x = new ScanChain();
            x.append(character);
            due.same("fault() of " + character, x.fault(), isItem ? -4 : character == '@' ? 1 : 0);
            x.clearText();
            x.append('@');
            x.append(character);
            due.same("fault() of @ and " + character, x.fault(), isHex ? -4 : 1);
        }
    }

    private static void fullText() {
        due.promise("13 fault");
        ScanChain x = new ScanChain();
        for (int i = 0; i < 79; i++) {
            x.append('0');
        }
        x.append('@');
        due.same("fault() of 80 characters that end with @", x.fault(), 80);
        due.promise("14 run");
        due.same("run()", x.run(), -180);
        due.same("a refused run", x.count(7) + x.count(3), 0);
    }

    private static void runs() {
        due.promise("14 run");
        ScanChain x = new ScanChain();
        x.add(3, 9, 4);
        due.same("run() of the empty text", x.run(), -100);
        View.write(x, "0@");
        String before = View.of(x);
        due.same("run() of an incomplete text", x.run(), -102);
        due.same("a refused run", View.of(x), before);
        x.append('4');
        due.same("run() that notes nothing", x.run(), 0);
        due.same("the state", x.count(2), 4);
        due.same("the clocks", x.count(3), 4);
        due.same("the text stays", x.count(8), 3);
        due.same("a run is one action", x.count(7), 2);
        due.same("undo()", x.undo(), 1);
        due.same("the state behind undo", x.count(2), 0);
        due.same("the text behind undo", x.count(8), 3);
        for (int state = 0; state < 16; state++) {
            x.clearText();
            View.write(x, "@" + Integer.toHexString(state));
            x.run();
            due.same("the state behind @" + Integer.toHexString(state), x.count(2), state);
        }
    }

    private static void noted() {
        due.promise("14 run");
        due.same("the first bits of the identity", identified().runOf("@4????0a"), 0xD);
        due.same("notes with others between: bits 0, 2 and 4", identified().runOf("@4?0?1?"), 3);
        due.same("the inputs of ?, 0, ?, ? come out as the last four notes",
                identified().runOf("@400000000?0??????????"), 0b1101 << 7);
        due.same("the 30th note is the first bit of the identity",
                identified().runOf("@1" + "?".repeat(29) + "@4????"), allOnes(30));
        due.same("the 30th note is the second bit of the identity",
                identified().runOf("@1" + "?".repeat(28) + "@4????"), allOnes(29));
        due.same("29 notes", identified().runOf("@1" + "?".repeat(29)), allOnes(29));
        due.same("31 notes", identified().runOf("@1" + "?".repeat(31)), allOnes(30));
        due.same("80 notes", identified().runOf("?".repeat(80)), allOnes(30));
        Noting x = identified();
        x.runOf("@1" + "?".repeat(60));
        due.same("the clocks that are not noted are made", x.chain.count(3), 61);
    }

    private static Noting identified() {
        Noting noting = new Noting();
        noting.chain.add(2, 0x4D, 1);
        return noting;
    }

    /** A chain whose text is written and run in one call. */
    private static final class Noting {
        private final ScanChain chain = new ScanChain();

        int runOf(String text) {
            chain.clearText();
            View.write(chain, text);
            return chain.run();
        }
    }

    private static int allOnes(int bits) {
        return (1 << bits) - 1;
    }

    private static void itemsAreClocks() {
        due.promise("14 run");
        String items = "01ab?";
        int[] modes = {0, 0, 1, 1, 0};
        int[] inputs = {0, 1, 0, 1, 1};
        for (int item = 0; item < 5; item++) {
            for (int state : new int[] {1, 4, 11}) {
                ScanChain run = new ScanChain();
                ScanChain clocked = new ScanChain();
                for (ScanChain x : new ScanChain[] {run, clocked}) {
                    x.add(3, 0x4D, 4);
                    x.move(state);
                }
                View.write(run, items.substring(item, item + 1));
                int noted = run.run();
                int output = clocked.clock(modes[item], inputs[item]);
                due.same("the note of " + items.charAt(item), noted, item == 4 ? output : 0);
                due.same("item " + items.charAt(item), View.system(run), View.system(clocked));
            }
        }
    }
}
