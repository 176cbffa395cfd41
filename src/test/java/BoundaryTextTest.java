/**
 * The boundary cases that the document's sentences on the text name, a test for each sentence: the
 * terms on the text and promises 11 to 14.
 */
public final class BoundaryTextTest {
    private static final Due due = new Due("BoundaryTextTest");
    private static final String ITEMS = "01ab?";
    private static final String HEX = "0123456789abcdef";

    public static void main(String[] args) {
        atMostEightyCharacters();
        emptyAtFirst();
        atLeastOneItem();
        noOtherItems();
        hexOfTheState();
        itemsAreClocks();
        notedClockHasTheInputOne();
        moveItem();
        faultIsTheFirst();
        faultUpToIt();
        faultOfScriptsOfAnyLength();
        faultOfAnIncompleteText();
        appendRange();
        appendToAFullText();
        appendAnswersTheLength();
        clearText();
        faultOfACompleteScript();
        runOfIncompleteTexts();
        runNotesThirty();
        runNotesNothing();
        runKeepsTheText();
        refusedRunChangesNothing();
        due.end();
    }

    private static ScanChain written(String text) {
        ScanChain x = new ScanChain();
        View.write(x, text);
        return x;
    }

    private static void atMostEightyCharacters() {
        due.sentence("There is a text of at most 80 characters (empty at first).");
        ScanChain x = written("0".repeat(79));
        due.same("79 characters", x.count(8), 79);
        due.same("the 80th", x.append('?'), 80);
        due.same("the 81st", x.append('?'), -3);
        due.same("80 characters", x.count(8), 80);
        due.same("the script of 80 characters is complete", x.fault(), -4);
        due.same("all of it is run", x.run(), 1);
        due.same("all of it is run", x.count(3), 80);
    }

    private static void emptyAtFirst() {
        due.sentence("(empty at first)");
        ScanChain x = new ScanChain();
        due.same("count(8)", x.count(8), 0);
        due.same("fault()", x.fault(), 0);
        due.same("run()", x.run(), -100);
        due.same("clearText()", x.clearText(), 0);
    }

    private static void atLeastOneItem() {
        due.sentence("script = item { item }");
        due.same("no item", written("").fault(), 0);
        due.same("one item", written("0").fault(), -4);
        due.same("one item of two characters", written("@0").fault(), -4);
        due.same("two items", written("@0b").fault(), -4);
        due.same("80 items", written("0".repeat(80)).fault(), -4);
        due.same("40 items of two characters", written("@f".repeat(40)).fault(), -4);
    }

    private static void noOtherItems() {
        due.sentence("item = \"0\" | \"1\" | \"a\" | \"b\" | \"?\" | \"@\" hex");
        for (int character = 32; character <= 126; character++) {
            int alone = character == '@' ? 1 : ITEMS.indexOf(character) >= 0 ? -4 : 0;
            String sign = "" + (char) character;
            due.same("fault() of '" + sign + "'", written(sign).fault(), alone);
            due.same("fault() of 'b" + sign + "'", written("b" + sign).fault(), alone < 0 ? -4 : alone + 1);
            due.same("fault() of '@a" + sign + "'", written("@a" + sign).fault(), alone < 0 ? -4 : alone + 2);
        }
    }

    private static void hexOfTheState() {
        due.sentence("Hex is a digit from 0 to 9 or a letter from a to f.");
        for (int character = 32; character <= 126; character++) {
            String sign = "" + (char) character;
            boolean isHex = HEX.indexOf(character) >= 0;
            due.same("fault() of '@" + sign + "'", written("@" + sign).fault(), isHex ? -4 : 1);
            due.same("run() of '@" + sign + "'", written("@" + sign).run(), isHex ? 0 : -101);
        }
    }

    private static void itemsAreClocks() {
        due.sentence("0 and 1 a clock with the mode 0 and this input; a and b a clock with the mode 1 and the input 0 (a) or 1 (b)");
        String items = "01ab";
        for (int item = 0; item < 4; item++) {
            for (int state = 0; state < 16; state++) {
                ScanChain run = Chains.of(2, 9, 4, 3, 0, 5);
                ScanChain clocked = Chains.of(2, 9, 4, 3, 0, 5);
                run.move(state);
                clocked.move(state);
                run.append(items.charAt(item));
                due.same("run() of " + items.charAt(item) + " in " + state, run.run(), 0);
                clocked.clock(item / 2, item % 2);
                due.same("behind " + items.charAt(item) + " in " + state, View.system(run), View.system(clocked));
            }
        }
    }

    private static void notedClockHasTheInputOne() {
        due.sentence("? a clock with the mode 0 and the input 1, whose output is noted");
        for (int chips = 0; chips <= 1; chips++) {
            for (int state = 0; state < 16; state++) {
                ScanChain run = Chains.same(chips, 3, 0, 1);
                ScanChain clocked = Chains.same(chips, 3, 0, 1);
                run.move(state);
                clocked.move(state);
                run.append('?');
                due.same("run() of ? in " + state, run.run(), clocked.clock(0, 1));
                due.same("behind ? in " + state, View.system(run), View.system(clocked));
            }
        }
    }

    private static void moveItem() {
        due.sentence("@ the master moves to the state with this number");
        for (int from = 0; from < 16; from++) {
            for (int to = 0; to < 16; to++) {
                ScanChain run = Chains.of(2, 9, 4, 3, 0, 5);
                ScanChain moved = Chains.of(2, 9, 4, 3, 0, 5);
                View.write(run, "@" + HEX.charAt(from) + "@" + HEX.charAt(to));
                due.same("run()", run.run(), 0);
                moved.move(from);
                moved.move(to);
                due.same("@" + HEX.charAt(from) + "@" + HEX.charAt(to), View.system(run), View.system(moved));
            }
        }
    }

    private static void faultIsTheFirst() {
        due.sentence("The fault of the text is the index of the first character such that no script, of any length, begins with the characters up to and including it.");
        for (int at = 0; at < 80; at++) {
            due.same("the wrong character " + at + " of 80", written("0".repeat(at) + "x" + "0".repeat(79 - at)).fault(), at);
            due.same("more wrong characters from " + at, written("0".repeat(at) + "x".repeat(80 - at)).fault(), at);
            due.same("a wrong character " + at + " at the end", written("0".repeat(at) + "2").fault(), at);
        }
    }

    private static void faultUpToIt() {
        due.sentence("begins with the characters up to and including it");
        for (int at = 0; at < 79; at++) {
            due.same("an @ at " + at + " with a wrong hex", written("a".repeat(at) + "@g").fault(), at + 1);
            due.same("an @ at " + at + " with another @", written("a".repeat(at) + "@@").fault(), at + 1);
        }
        due.same("an @ in a hex's place", written("@0@@0").fault(), 3);
        due.same("a ? in a hex's place", written("??@?").fault(), 3);
        due.same("a hex without an @", written("@55").fault(), 2);
    }

    private static void faultOfScriptsOfAnyLength() {
        due.sentence("no script, of any length, begins with");
        ScanChain x = written("0".repeat(79) + "@");
        due.same("fault() of an @ in the last place", x.fault(), 80);
        due.same("a hex finds no room", x.append('0'), -3);
        due.same("fault()", x.fault(), 80);
        due.same("run()", x.run(), -180);
    }

    private static void faultOfAnIncompleteText() {
        due.sentence("If there is no such character, but the text is not a complete script (as the empty text), the fault is the length of the text.");
        due.same("fault() of the empty text", written("").fault(), 0);
        for (int length = 1; length <= 80; length++) {
            due.same("fault() of " + length + " characters that end with @", written("1".repeat(length - 1) + "@").fault(), length);
        }
    }

    private static void appendRange() {
        due.sentence("11: character: 32 to 126; ... BAD_VALUE if character is out of range");
        ScanChain x = new ScanChain();
        for (int bad : new int[] {Integer.MIN_VALUE, -48, -1, 0, 10, 30, 31, 127, 128, 233, 256 + 48, 65536 + 48, Integer.MAX_VALUE}) {
            due.same("append(" + bad + ")", x.append(bad), -2);
            due.same("the length behind it", x.count(8), 0);
        }
        due.same("append(32)", x.append(32), 1);
        due.same("append(33)", x.append(33), 2);
        due.same("append(125)", x.append(125), 3);
        due.same("append(126)", x.append(126), 4);
    }

    private static void appendToAFullText() {
        due.sentence("11: TOO_MANY if the text has 80 characters");
        ScanChain x = written("?".repeat(80));
        due.same("append(48)", x.append(48), -3);
        due.same("append(126)", x.append(126), -3);
        due.same("append(31): the character is looked at first", x.append(31), -2);
        due.same("append(127): the character is looked at first", x.append(127), -2);
        due.same("the length", x.count(8), 80);
        due.same("the fault", x.fault(), -4);
        x.clearText();
        due.same("append(48) to a text that was full", x.append(48), 1);
    }

    private static void appendAnswersTheLength() {
        due.sentence("11: Returns the length of the text");
        ScanChain x = new ScanChain();
        for (int length = 1; length <= 80; length++) {
            due.same("append", x.append(32 + length % 95), length);
            due.same("count(8)", x.count(8), length);
        }
        due.same("append is no action", x.count(7), 0);
    }

    private static void clearText() {
        due.sentence("12: Empties the text. ... Returns the length that the text had.");
        for (int length = 0; length <= 80; length++) {
            ScanChain x = written("@".repeat(length));
            due.same("clearText() of " + length, x.clearText(), length);
            due.same("the length", x.count(8), 0);
            due.same("the fault of the empty text", x.fault(), 0);
            due.same("clearText() of nothing", x.clearText(), 0);
            due.same("a new text", x.append('0'), 1);
            due.same("nothing of the old one is left", x.fault(), -4);
            due.same("clearText is no action", x.count(7), 0);
        }
    }

    private static void faultOfACompleteScript() {
        due.sentence("13: Returns the fault; NONE if the text is a complete script.");
        for (int length = 1; length <= 80; length++) {
            due.same("fault() of " + length + " items", written("b".repeat(length)).fault(), -4);
        }
        ScanChain x = new ScanChain();
        int[] wants = {-4, 2, -4, 4, -4};
        String text = "0@0@f";
        for (int at = 0; at < text.length(); at++) {
            x.append(text.charAt(at));
            due.same("fault() of " + text.substring(0, at + 1), x.fault(), wants[at]);
        }
        x.append('f');
        x.append('0');
        due.same("a fault stays where it is", x.fault(), 5);
    }

    private static void runOfIncompleteTexts() {
        due.sentence("14: -100 minus the fault (an error code) if the text is not a complete script");
        due.same("run() of the empty text", written("").run(), -100);
        for (int at = 0; at < 80; at++) {
            due.same("run() with the fault " + at, written("0".repeat(at) + "#").run(), -100 - at);
            due.same("run() with the fault " + (at + 1), written("?".repeat(at) + "@").run(), -101 - at);
        }
        due.same("run() of one item", written("?").run(), 1);
    }

    private static void runNotesThirty() {
        due.sentence("14: the number whose bits, the lowest first, are the noted outputs in order, of the first 30 that are noted");
        for (int notes = 1; notes <= 80; notes++) {
            due.same("run() of " + notes + " notes", written("?".repeat(notes)).run(), Chains.allOnes(Math.min(notes, 30)));
        }
        for (int one = 0; one < 39; one++) {
            ScanChain x = Chains.of(2, 0, 1);
            View.write(x, "@4" + "0?".repeat(one) + "1?" + "0?".repeat(38 - one));
            due.same("run() of 39 notes, of which " + one + " is 1", x.run(), one < 30 ? 1 << one : 0);
            due.same("the clocks of those that are not noted, too", x.count(3), 4 + 2 * 39);
        }
    }

    private static void runNotesNothing() {
        due.sentence("14: (0 if none is noted)");
        due.same("run() of 0", written("0").run(), 0);
        due.same("run() of 80 clocks with the output 1", written("b".repeat(80)).run(), 0);
        due.same("run() of 40 moves", written("@4".repeat(40)).run(), 0);
        ScanChain x = Chains.of(2, 0, 1);
        View.write(x, "@4?");
        due.same("a noted 0", x.run(), 0);
    }

    private static void runKeepsTheText() {
        due.sentence("14: The text does not change.");
        ScanChain x = written("?".repeat(80));
        x.run();
        due.same("the length", x.count(8), 80);
        due.same("run() again", x.run(), Chains.allOnes(30));
        due.same("clearText()", x.clearText(), 80);
    }

    private static void refusedRunChangesNothing() {
        due.sentence("A method that returns an error code changes nothing.");
        ScanChain refused = Chains.used();
        ScanChain other = Chains.used();
        refused.append('@');
        other.append('@');
        due.same("run() of a text that ends with @", refused.run(), -105);
        due.same("run() once more", refused.run(), -105);
        due.same("behind the refused runs", View.whole(refused), View.whole(other));
    }
}
