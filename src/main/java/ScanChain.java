/**
 * A scan chain of chips in the style of JTAG: a controller, a master that clocks it, scripts of
 * clocks, a history and a snapshot. The document's promises say what each call answers.
 */
public final class ScanChain {
    public static final int NO_SUCH = -1;
    public static final int BAD_VALUE = -2;
    public static final int TOO_MANY = -3;
    public static final int NONE = -4;

    private static final int MOST_CHIPS = 6;
    private static final int MOST_IDENTITIES = 8;
    private static final int MOST_RECORDS = 4;
    private static final int MOST_CHARACTERS = 80;
    private static final int MOST_NOTED = 30;

    private static final int IDENTITY_BITS = 8;
    private static final int NO_IDENTITY = 255;
    private static final int MOST_IDENTITY = 253;
    private static final int MOST_BYTE = 255;
    private static final int MOST_CODE = 63;
    private static final int FAULT_BASE = -100;

    private final Chain chain;
    /** Queries that ask what a call would do make that call on this copy. */
    private final Chain trial;
    private final Chain snapshot;
    private boolean hasSnapshot;
    private final History history;
    private final Script script;

    public ScanChain() {
        chain = new Chain();
        trial = new Chain();
        snapshot = new Chain();
        hasSnapshot = false;
        history = new History();
        script = new Script();
    }

    // ---- chips

    public int add(int codeLength, int identity, int cells) {
        if (!isWithin(codeLength, 2, 6) || !isIdentity(identity) || !isWithin(cells, 1, 8)) {
            return BAD_VALUE;
        }
        if (chain.size >= MOST_CHIPS) {
            return TOO_MANY;
        }
        history.record(chain);
        return chain.putBehind(codeLength, identity, cells);
    }

    public int take(int chip) {
        if (!chain.has(chip)) {
            return NO_SUCH;
        }
        history.record(chain);
        return chain.takeOut(chip);
    }

    public int setPins(int chip, int pins) {
        if (!chain.has(chip)) {
            return NO_SUCH;
        }
        if (!isWithin(pins, 0, MOST_BYTE)) {
            return BAD_VALUE;
        }
        history.record(chain);
        return chain.chips[chip].changePins(pins);
    }

    public int breakChip(int chip, boolean isBroken) {
        if (!chain.has(chip)) {
            return NO_SUCH;
        }
        history.record(chain);
        chain.chips[chip].isBroken = isBroken;
        return chain.brokenChips();
    }

    // ---- clocks and the master

    public int clock(int mode, int input) {
        if (!isWithin(mode, 0, 1) || !isWithin(input, 0, 1)) {
            return BAD_VALUE;
        }
        history.record(chain);
        return chain.tick(mode, input);
    }

    public int move(int state) {
        if (!Controller.isState(state)) {
            return BAD_VALUE;
        }
        history.record(chain);
        return Master.goTo(chain, state);
    }

    public int identify() {
        history.record(chain);
        return Master.readIdentities(chain);
    }

    public int load(int chip, int instruction) {
        if (!chain.has(chip)) {
            return NO_SUCH;
        }
        if (!isWithin(instruction, 0, MOST_CODE)) {
            return BAD_VALUE;
        }
        history.record(chain);
        Master.loadInstruction(chain, chip, instruction);
        return chain.chips[chip].dataBits();
    }

    public int exchange(int chip, int data) {
        int error = exchangeError(chip, data);
        if (error != 0) {
            return error;
        }
        history.record(chain);
        return Master.exchangeData(chain, chip, data);
    }

    // ---- text

    public int append(int character) {
        if (!isWithin(character, 32, 126)) {
            return BAD_VALUE;
        }
        if (script.length >= MOST_CHARACTERS) {
            return TOO_MANY;
        }
        return script.write(character);
    }

    public int clearText() {
        return script.wipe();
    }

    public int fault() {
        return script.firstFault();
    }

    public int run() {
        int firstFault = script.firstFault();
        if (firstFault != NONE) {
            return FAULT_BASE - firstFault;
        }
        history.record(chain);
        return Master.carryOut(chain, script);
    }

    // ---- history and snapshot

    public int undo() {
        return history.takeBack(chain);
    }

    public int save() {
        snapshot.becomeCopyOf(chain);
        hasSnapshot = true;
        return chain.size;
    }

    public int restore() {
        if (!hasSnapshot) {
            return NO_SUCH;
        }
        history.record(chain);
        chain.becomeCopyOf(snapshot);
        return chain.size;
    }

    // ---- queries; they change nothing

    public int chip(int chip, int what) {
        if (!chain.has(chip)) {
            return NO_SUCH;
        }
        return chain.chips[chip].tell(what);
    }

    public int count(int what) {
        switch (what) {
            case 0:
                return chain.size;
            case 1:
                return chain.brokenChips();
            case 2:
                return chain.state;
            case 3:
                return chain.clocks;
            case 4:
                return chain.sumOfCodeLengths();
            case 5:
                return chain.sumOfDataBits();
            case 6:
                return chain.identityCount;
            case 7:
                return history.size;
            case 8:
                return script.length;
            default:
                return BAD_VALUE;
        }
    }

    public int found(int index) {
        if (index < 0) {
            return BAD_VALUE;
        }
        if (index >= chain.identityCount) {
            return NONE;
        }
        return chain.identities[index];
    }

    public int distance(int from, int to) {
        if (!Controller.isState(from) || !Controller.isState(to)) {
            return BAD_VALUE;
        }
        return Controller.clocksBetween(from, to);
    }

    public int peek(int input) {
        if (!isWithin(input, 0, 1)) {
            return BAD_VALUE;
        }
        return chain.outputWith(input);
    }

    public int ifIdentified() {
        trial.becomeCopyOf(chain);
        return Master.readIdentities(trial);
    }

    public int ifExchanged(int chip, int data) {
        int error = exchangeError(chip, data);
        if (error != 0) {
            return error;
        }
        trial.becomeCopyOf(chain);
        return Master.exchangeData(trial, chip, data);
    }

    public float bypassed() {
        if (chain.size <= 0) {
            return 0.0f;
        }
        return (float) chain.bypassedChips() / (float) chain.size;
    }

    // ---- checks of arguments

    private static boolean isWithin(int number, int least, int most) {
        return number >= least && number <= most;
    }

    private static boolean isIdentity(int number) {
        return number == 0 || (isWithin(number, 1, MOST_IDENTITY) && number % 2 == 1);
    }

    /** The error code of an exchange, or 0: exchange and ifExchanged have the same ones. */
    private int exchangeError(int chip, int data) {
        if (!chain.has(chip)) {
            return NO_SUCH;
        }
        return isWithin(data, 0, MOST_BYTE) ? 0 : BAD_VALUE;
    }

    /** The number with that many bits, all of them 1. */
    private static int allOnes(int bits) {
        return (1 << bits) - 1;
    }

    /** The sixteen states that all chips follow, and the ways between them. */
    private static final class Controller {
        private static final int STATES = 16;
        private static final int RESET = 0;
        private static final int IDLE = 1;
        private static final int CAPTURE_DATA = 3;
        private static final int SHIFT_DATA = 4;
        private static final int UPDATE_DATA = 8;
        private static final int CAPTURE_CODE = 10;
        private static final int SHIFT_CODE = 11;
        private static final int UPDATE_CODE = 15;

        private static final int[] NEXT_BY_MODE_0 = {1, 1, 3, 4, 4, 6, 6, 4, 1, 10, 11, 11, 13, 13, 11, 1};
        private static final int[] NEXT_BY_MODE_1 = {0, 2, 9, 5, 5, 8, 7, 8, 2, 0, 12, 12, 15, 14, 15, 2};

        private Controller() {
        }

        static boolean isState(int number) {
            return number >= 0 && number < STATES;
        }

        static int next(int state, int mode) {
            if (!isState(state)) {
                return RESET;
            }
            return mode == 0 ? NEXT_BY_MODE_0[state] : NEXT_BY_MODE_1[state];
        }

        /** The length of the shortest sequence of modes; each state can be reached in fewer than 16 clocks. */
        static int clocksBetween(int from, int to) {
            int reached = 1 << from;
            int clocks = 0;
            while (clocks < STATES && ((reached >> to) & 1) == 0) {
                reached = nextOfAll(reached);
                clocks++;
            }
            return clocks;
        }

        /** Sets of states are numbers whose bit s tells whether the state s belongs to the set. */
        private static int nextOfAll(int states) {
            int nextStates = 0;
            for (int state = 0; state < STATES; state++) {
                if (((states >> state) & 1) == 1) {
                    nextStates |= (1 << next(state, 0)) | (1 << next(state, 1));
                }
            }
            return nextStates;
        }
    }

    /** A chip with its registers. */
    private static final class Chip {
        private static final int DRIVE = 0;
        private static final int TELL_IDENTITY = 1;
        private static final int SAMPLE = 2;

        private int codeLength;
        private int identity;
        private int cells;
        private int pins;
        private int outputs;
        private boolean isBroken;
        private int instruction;
        private int codeRegister;
        private int dataRegister;

        /** Rows of chips are made once and used again, so a new chip takes over an old object. */
        void beNew(int newCodeLength, int newIdentity, int newCells) {
            codeLength = newCodeLength;
            identity = newIdentity;
            cells = newCells;
            pins = 0;
            outputs = 0;
            isBroken = false;
            codeRegister = 0;
            giveFirstInstruction();
        }

        void becomeCopyOf(Chip other) {
            codeLength = other.codeLength;
            identity = other.identity;
            cells = other.cells;
            pins = other.pins;
            outputs = other.outputs;
            isBroken = other.isBroken;
            instruction = other.instruction;
            codeRegister = other.codeRegister;
            dataRegister = other.dataRegister;
        }

        int changePins(int newPins) {
            int previous = pins;
            pins = newPins & allOnes(cells);
            return previous;
        }

        boolean selectsCells() {
            return instruction == DRIVE || instruction == SAMPLE;
        }

        boolean selectsIdentity() {
            return instruction == TELL_IDENTITY && identity != 0;
        }

        boolean selectsBypass() {
            return !selectsCells() && !selectsIdentity();
        }

        int dataBits() {
            if (selectsCells()) {
                return cells;
            }
            return selectsIdentity() ? IDENTITY_BITS : 1;
        }

        void giveInstruction(int newInstruction) {
            instruction = newInstruction;
            dataRegister = 0;
        }

        void giveFirstInstruction() {
            giveInstruction(identity != 0 ? TELL_IDENTITY : allOnes(codeLength));
        }

        void captureData() {
            if (selectsCells()) {
                dataRegister = pins;
            } else {
                dataRegister = selectsIdentity() ? identity : 0;
            }
        }

        void updateData() {
            if (instruction == DRIVE) {
                outputs = dataRegister;
            }
        }

        int dataOutput() {
            return isBroken ? 1 : dataRegister & 1;
        }

        int codeOutput() {
            return isBroken ? 1 : codeRegister & 1;
        }

        void shiftData(int input) {
            dataRegister = shifted(dataRegister, dataBits(), input);
        }

        void shiftCode(int input) {
            codeRegister = shifted(codeRegister, codeLength, input);
        }

        private static int shifted(int register, int bits, int input) {
            return (register >> 1) | (input << (bits - 1));
        }

        int tell(int what) {
            switch (what) {
                case 0:
                    return codeLength;
                case 1:
                    return identity;
                case 2:
                    return cells;
                case 3:
                    return pins;
                case 4:
                    return outputs;
                case 5:
                    return isBroken ? 1 : 0;
                case 6:
                    return instruction;
                case 7:
                    return codeRegister;
                case 8:
                    return dataRegister;
                case 9:
                    return dataBits();
                default:
                    return BAD_VALUE;
            }
        }
    }

    /** The state of the system: all that the history and the snapshot keep. */
    private static final class Chain {
        private final Chip[] chips;
        private int size;
        private int state;
        private int clocks;
        private final int[] identities;
        private int identityCount;

        Chain() {
            chips = new Chip[MOST_CHIPS];
            for (int place = 0; place < chips.length; place++) {
                chips[place] = new Chip();
            }
            size = 0;
            state = Controller.RESET;
            clocks = 0;
            identities = new int[MOST_IDENTITIES];
            identityCount = 0;
        }

        void becomeCopyOf(Chain other) {
            for (int place = 0; place < other.size; place++) {
                chips[place].becomeCopyOf(other.chips[place]);
            }
            size = other.size;
            state = other.state;
            clocks = other.clocks;
            for (int index = 0; index < other.identityCount; index++) {
                identities[index] = other.identities[index];
            }
            identityCount = other.identityCount;
        }

        boolean has(int place) {
            return place >= 0 && place < size;
        }

        /** Answers the place of the new chip; the caller has seen that there is room. */
        int putBehind(int codeLength, int identity, int cells) {
            int place = size;
            if (place < chips.length) {
                chips[place].beNew(codeLength, identity, cells);
                size++;
            }
            return place;
        }

        int takeOut(int place) {
            int identity = chips[place].identity;
            for (int behind = place + 1; behind < size; behind++) {
                chips[behind - 1].becomeCopyOf(chips[behind]);
            }
            size--;
            return identity;
        }

        int brokenChips() {
            int sum = 0;
            for (int place = 0; place < size; place++) {
                sum += chips[place].isBroken ? 1 : 0;
            }
            return sum;
        }

        int bypassedChips() {
            int sum = 0;
            for (int place = 0; place < size; place++) {
                sum += chips[place].selectsBypass() ? 1 : 0;
            }
            return sum;
        }

        int sumOfCodeLengths() {
            int sum = 0;
            for (int place = 0; place < size; place++) {
                sum += chips[place].codeLength;
            }
            return sum;
        }

        int sumOfDataBits() {
            int sum = 0;
            for (int place = 0; place < size; place++) {
                sum += chips[place].dataBits();
            }
            return sum;
        }

        void forgetIdentities() {
            identityCount = 0;
        }

        void keepIdentity(int identity) {
            if (identityCount < identities.length) {
                identities[identityCount] = identity;
                identityCount++;
            }
        }

        /** Makes a clock and answers its output. */
        int tick(int mode, int input) {
            int output = outputWith(input);
            if (state == Controller.SHIFT_DATA) {
                shiftAllData(input);
            } else if (state == Controller.SHIFT_CODE) {
                shiftAllCodes(input);
            } else {
                for (int place = 0; place < size; place++) {
                    workOf(chips[place]);
                }
            }
            state = Controller.next(state, mode);
            clocks++;
            return output;
        }

        int outputWith(int input) {
            if (state != Controller.SHIFT_DATA && state != Controller.SHIFT_CODE) {
                return 1;
            }
            if (size <= 0) {
                return input;
            }
            Chip last = chips[size - 1];
            return state == Controller.SHIFT_DATA ? last.dataOutput() : last.codeOutput();
        }

        /** The work of the states that do not shift. */
        private void workOf(Chip chip) {
            switch (state) {
                case Controller.RESET:
                    chip.giveFirstInstruction();
                    break;
                case Controller.CAPTURE_DATA:
                    chip.captureData();
                    break;
                case Controller.UPDATE_DATA:
                    chip.updateData();
                    break;
                case Controller.CAPTURE_CODE:
                    chip.codeRegister = 1;
                    break;
                case Controller.UPDATE_CODE:
                    chip.giveInstruction(chip.codeRegister);
                    break;
                default:
                    break;
            }
        }

        private void shiftAllData(int input) {
            int incoming = input;
            for (int place = 0; place < size; place++) {
                int outgoing = chips[place].dataOutput();
                chips[place].shiftData(incoming);
                incoming = outgoing;
            }
        }

        private void shiftAllCodes(int input) {
            int incoming = input;
            for (int place = 0; place < size; place++) {
                int outgoing = chips[place].codeOutput();
                chips[place].shiftCode(incoming);
                incoming = outgoing;
            }
        }
    }

    /** What the master does with a chain. */
    private static final class Master {
        /** So many clocks with the mode 1 lead to the reset from every state. */
        private static final int CLOCKS_TO_RESET = 5;

        private Master() {
        }

        /** Answers the number of clocks. */
        static int goTo(Chain chain, int state) {
            int clocks = Controller.clocksBetween(chain.state, state);
            for (int left = clocks - 1; left >= 0; left--) {
                int byMode0 = Controller.next(chain.state, 0);
                // The mode 0 comes first in lexicographic order, so it wins wherever both modes lead on.
                int mode = Controller.clocksBetween(byMode0, state) == left ? 0 : 1;
                chain.tick(mode, 1);
            }
            return clocks;
        }

        /** Answers how many chips were found. */
        static int readIdentities(Chain chain) {
            for (int clock = 0; clock < CLOCKS_TO_RESET; clock++) {
                chain.tick(1, 1);
            }
            goTo(chain, Controller.SHIFT_DATA);
            chain.forgetIdentities();
            for (int read = 0; read < MOST_IDENTITIES; read++) {
                int identity = readIdentity(chain);
                if (identity == NO_IDENTITY) {
                    break;
                }
                chain.keepIdentity(identity);
            }
            goTo(chain, Controller.IDLE);
            return chain.identityCount;
        }

        /** An identity is odd: if its lowest bit is 0, the chip has none, and no other bits follow. */
        private static int readIdentity(Chain chain) {
            int identity = chain.tick(0, 1);
            for (int bit = 1; identity != 0 && bit < IDENTITY_BITS; bit++) {
                identity |= chain.tick(0, 1) << bit;
            }
            return identity;
        }

        static void loadInstruction(Chain chain, int place, int instruction) {
            goTo(chain, Controller.SHIFT_CODE);
            for (int at = chain.size - 1; at >= 0; at--) {
                int bits = chain.chips[at].codeLength;
                int code = at == place ? instruction : allOnes(bits);
                shiftThrough(chain, code, bits, at == 0);
            }
            goTo(chain, Controller.IDLE);
        }

        /** Answers the old data. */
        static int exchangeData(Chain chain, int place, int data) {
            int oldData = 0;
            goTo(chain, Controller.SHIFT_DATA);
            for (int at = chain.size - 1; at >= 0; at--) {
                int number = at == place ? data : 0;
                int outputs = shiftThrough(chain, number, chain.chips[at].dataBits(), at == 0);
                if (at == place) {
                    oldData = outputs;
                }
            }
            goTo(chain, Controller.IDLE);
            return oldData;
        }

        /**
         * Clocks so many bits of a number in, the lowest first, and answers the outputs as a number.
         * The mode 1 in the last clock of the last scan ends the shifting.
         */
        private static int shiftThrough(Chain chain, int number, int bits, boolean isLastScan) {
            int outputs = 0;
            for (int bit = 0; bit < bits; bit++) {
                int mode = isLastScan && bit == bits - 1 ? 1 : 0;
                outputs |= chain.tick(mode, (number >> bit) & 1) << bit;
            }
            return outputs;
        }

        /** Carries out a complete script and answers the noted outputs. */
        static int carryOut(Chain chain, Script script) {
            int noted = 0;
            int notes = 0;
            for (int index = 0; index < script.length; index++) {
                char item = script.characters[index];
                if (item == '?') {
                    int output = chain.tick(0, 1);
                    if (notes < MOST_NOTED) {
                        noted |= output << notes;
                        notes++;
                    }
                } else if (item == '@') {
                    index++;
                    goTo(chain, script.hexAt(index));
                } else {
                    clockItem(chain, item);
                }
            }
            return noted;
        }

        private static void clockItem(Chain chain, char item) {
            int mode = item == 'a' || item == 'b' ? 1 : 0;
            int input = item == '1' || item == 'b' ? 1 : 0;
            chain.tick(mode, input);
        }
    }

    /** The text, and what of it is a script. */
    private static final class Script {
        private static final int NO_HEX = -1;

        private final char[] characters;
        private int length;

        Script() {
            characters = new char[MOST_CHARACTERS];
            length = 0;
        }

        /** Answers the length of the text; the caller has seen that there is room. */
        int write(int character) {
            if (length < characters.length) {
                characters[length] = (char) character;
                length++;
            }
            return length;
        }

        /** Answers the length that the text had. */
        int wipe() {
            int previous = length;
            length = 0;
            return previous;
        }

        /** The index of the fault, or NONE. */
        int firstFault() {
            boolean wantsHex = false;
            for (int index = 0; index < length; index++) {
                char character = characters[index];
                boolean fits = wantsHex ? hexValue(character) != NO_HEX : startsItem(character);
                if (!fits) {
                    return index;
                }
                wantsHex = !wantsHex && character == '@';
            }
            boolean isComplete = length > 0 && !wantsHex;
            return isComplete ? NONE : length;
        }

        /** The state that stands behind an @ of a complete script. */
        int hexAt(int index) {
            return index >= 0 && index < length ? hexValue(characters[index]) : NO_HEX;
        }

        private static boolean startsItem(char character) {
            return character == '0' || character == '1' || character == 'a' || character == 'b'
                    || character == '?' || character == '@';
        }

        private static int hexValue(char character) {
            if (character >= '0' && character <= '9') {
                return character - '0';
            }
            if (character >= 'a' && character <= 'f') {
                return character - 'a' + 10;
            }
            return NO_HEX;
        }
    }

    /** The latest states of the system, the oldest one first. */
    private static final class History {
        private final Chain[] records;
        private int size;

        History() {
            records = new Chain[MOST_RECORDS];
            for (int index = 0; index < records.length; index++) {
                records[index] = new Chain();
            }
            size = 0;
        }

        void record(Chain chain) {
            if (size >= records.length) {
                dropOldest();
            }
            records[size].becomeCopyOf(chain);
            size++;
        }

        /** The dropped record's object goes behind the others, to be used again. */
        private void dropOldest() {
            Chain oldest = records[0];
            for (int index = 1; index < records.length; index++) {
                records[index - 1] = records[index];
            }
            records[records.length - 1] = oldest;
            size = records.length - 1;
        }

        /** Puts the latest record into the chain and answers how many are left, or NONE. */
        int takeBack(Chain chain) {
            if (size <= 0) {
                return NONE;
            }
            size--;
            chain.becomeCopyOf(records[size]);
            return size;
        }
    }
}
