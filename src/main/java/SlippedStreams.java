import java.util.Arrays;

/**
 * Runs a program by two streams, one for what addresses are made of and one for the other values,
 * that are joined by short queues and may slip against one another as the caller likes; and runs it
 * plainly beside that.
 */
public final class SlippedStreams {
    public static final int NONE = -1;

    private static final int MOST_INSTRUCTIONS = 24;
    private static final int REGISTERS = 8;
    private static final int WORDS = 32;
    private static final int ADDRESS_BITS = 31;
    private static final int MOST_STORES = 6;
    private static final int MOST_KEPT = 64;
    private static final int MOST_MOVES = 50;

    private static final int SET = 0;
    private static final int ADD = 1;
    private static final int SUB = 2;
    private static final int MUL = 3;
    private static final int LOAD = 4;
    private static final int STORE = 5;
    private static final int LESS = 6;
    private static final int DIFFER = 7;
    private static final int OUT = 8;

    private static final int ADDRESS_STREAM = 0;
    private static final int VALUE_STREAM = 1;

    private final Program program;
    private final int[] filled;
    private final Link link;
    private final AddressStream addressStream;
    private final ValueStream valueStream;
    private final PlainRun plainRun;
    private int lost;

    public SlippedStreams() {
        program = new Program();
        filled = new int[WORDS];
        link = new Link();
        addressStream = new AddressStream(program, link);
        valueStream = new ValueStream(program, link);
        plainRun = new PlainRun(program);
    }

    public int add(int kind, int a, int b, int c) {
        if (program.size >= MOST_INSTRUCTIONS || !Program.isSound(kind, a, b, c)) {
            return NONE;
        }
        int number = program.append(kind, a, b, c);
        beginAnew();
        return number;
    }

    public void fill(int first, int step) {
        for (int i = 0; i < WORDS; i++) {
            filled[i] = first + i * step;
        }
        beginAnew();
    }

    public int clear() {
        int before = program.size;
        program.removeAll();
        beginAnew();
        return before;
    }

    public void reset() {
        beginAnew();
    }

    public int streamOf(int i) {
        return i >= 0 && i < program.size ? program.streams[i] : NONE;
    }

    public int addressRegisters() {
        return Integer.bitCount(program.addressMask);
    }

    public int address(int n) {
        if (!isMoveCount(n)) {
            return NONE;
        }
        int moves = addressStream.advance(n);
        if (moves < n) {
            noteLoss();
        }
        return moves;
    }

    public int value(int n) {
        return isMoveCount(n) ? valueStream.advance(n) : NONE;
    }

    public int both(int n) {
        if (!isMoveCount(n)) {
            return NONE;
        }
        int moves = 0;
        for (int turn = 0; turn < n; turn++) {
            if (addressStream.step()) {
                moves++;
            } else {
                noteLoss();
            }
            if (valueStream.step()) {
                moves++;
            }
        }
        return moves;
    }

    public int place(int stream) {
        if (stream == ADDRESS_STREAM) {
            return addressStream.position();
        }
        return stream == VALUE_STREAM ? valueStream.position() : plainRun.position();
    }

    public int slip() {
        return addressStream.left - valueStream.left;
    }

    public int queue(int q) {
        switch (q) {
            case 0:
                return link.loads.size;
            case 1:
                return link.stored.size;
            case 2:
                return link.valueOutcomes.size;
            case 3:
                return link.addressOutcomes.size;
            case 4:
                return link.passed.size;
            case 5:
                return link.stores.size;
            default:
                return NONE;
        }
    }

    public int register(int r, boolean plain) {
        if (!isRegister(r)) {
            return 0;
        }
        if (plain) {
            return plainRun.registers[r];
        }
        return program.isAddressRegister(r) ? addressStream.registers[r] : valueStream.registers[r];
    }

    public int peek(int address, boolean plain) {
        int word = address & ADDRESS_BITS;
        return plain ? plainRun.memory[word] : link.memory[word];
    }

    public int losses() {
        return lost;
    }

    public int plain(int n) {
        return isMoveCount(n) ? plainRun.advance(n) : NONE;
    }

    public int outputs(boolean plain) {
        return plain ? plainRun.written.count : valueStream.written.count;
    }

    public int output(int i, boolean plain) {
        return plain ? plainRun.written.thing(i) : valueStream.written.thing(i);
    }

    private void beginAnew() {
        link.begin(filled);
        addressStream.begin();
        valueStream.begin();
        plainRun.begin(filled);
        lost = 0;
    }

    /** To be asked right behind a step that the address stream could not make. */
    private void noteLoss() {
        if (addressStream.isAtOutcome()) {
            lost++;
        }
    }

    private static boolean isMoveCount(int n) {
        return n >= 1 && n <= MOST_MOVES;
    }

    private static boolean isRegister(int r) {
        return r >= 0 && r < REGISTERS;
    }

    /** The instructions, and what the slices make of them, worked out once for each new program. */
    private static final class Program {
        final int[] kinds = new int[MOST_INSTRUCTIONS];
        final int[] as = new int[MOST_INSTRUCTIONS];
        final int[] bs = new int[MOST_INSTRUCTIONS];
        final int[] cs = new int[MOST_INSTRUCTIONS];
        final int[] streams = new int[MOST_INSTRUCTIONS];
        /** The address registers that go through R for an instruction, in order; NONE for no one. */
        final int[] firstPassed = new int[MOST_INSTRUCTIONS];
        final int[] secondPassed = new int[MOST_INSTRUCTIONS];
        final int[] passedCounts = new int[MOST_INSTRUCTIONS];
        final boolean[] nothingForAddresses = new boolean[MOST_INSTRUCTIONS];
        final boolean[] nothingForValues = new boolean[MOST_INSTRUCTIONS];
        int size;
        int addressMask;

        static boolean isSound(int kind, int a, int b, int c) {
            switch (kind) {
                case SET:
                case OUT:
                    return isRegister(a);
                case ADD:
                case SUB:
                case MUL:
                    return isRegister(a) && isRegister(b) && isRegister(c);
                case LOAD:
                case STORE:
                    return isRegister(a) && isRegister(b);
                case LESS:
                case DIFFER:
                    return isRegister(a) && isRegister(b) && c >= 0 && c <= MOST_INSTRUCTIONS;
                default:
                    return false;
            }
        }

        int append(int kind, int a, int b, int c) {
            int number = size;
            kinds[number] = kind;
            as[number] = a;
            bs[number] = b;
            cs[number] = c;
            size++;
            slice();
            return number;
        }

        void removeAll() {
            size = 0;
            slice();
        }

        boolean isAddressRegister(int r) {
            return r != NONE && (addressMask >> r & 1) != 0;
        }

        boolean isArithmetic(int i) {
            return kinds[i] == ADD || kinds[i] == SUB || kinds[i] == MUL;
        }

        boolean isBranch(int i) {
            return kinds[i] == LESS || kinds[i] == DIFFER;
        }

        private void slice() {
            findAddressRegisters();
            for (int i = 0; i < size; i++) {
                streams[i] = belongsToAddresses(i) ? ADDRESS_STREAM : VALUE_STREAM;
                findPassed(i);
                findNothings(i);
            }
        }

        private void findAddressRegisters() {
            addressMask = 0;
            for (int i = 0; i < size; i++) {
                if (kinds[i] == LOAD || kinds[i] == STORE) {
                    addressMask |= 1 << bs[i];
                }
            }
            // Each round that changes anything finds a register more, so these rounds are enough.
            for (int round = 0; round < REGISTERS; round++) {
                for (int i = 0; i < size; i++) {
                    if (isArithmetic(i) && isAddressRegister(as[i])) {
                        addressMask |= 1 << bs[i] | 1 << cs[i];
                    }
                }
            }
        }

        private boolean belongsToAddresses(int i) {
            if (isBranch(i)) {
                return isAddressRegister(as[i]) && isAddressRegister(bs[i]);
            }
            return kinds[i] == STORE || kinds[i] != OUT && isAddressRegister(as[i]);
        }

        private void findPassed(int i) {
            boolean passes = streams[i] == VALUE_STREAM;
            int first = firstRead(i);
            int second = secondRead(i);
            firstPassed[i] = passes && isAddressRegister(first) ? first : NONE;
            secondPassed[i] = passes && second != first && isAddressRegister(second) ? second : NONE;
            passedCounts[i] = (firstPassed[i] == NONE ? 0 : 1) + (secondPassed[i] == NONE ? 0 : 1);
        }

        /** A branch is something for both streams: that is why going over nothing comes to an end. */
        private void findNothings(int i) {
            boolean own = streams[i] == ADDRESS_STREAM;
            boolean storesValue = kinds[i] == STORE && !isAddressRegister(as[i]);
            nothingForAddresses[i] = !own && kinds[i] != LOAD && !isBranch(i) && passedCounts[i] == 0;
            nothingForValues[i] = own && !isBranch(i) && !storesValue;
        }

        /** The b of a LOAD is left out here and below: the value stream has no use for it. */
        private int firstRead(int i) {
            if (isArithmetic(i)) {
                return bs[i];
            }
            return isBranch(i) || kinds[i] == OUT ? as[i] : NONE;
        }

        private int secondRead(int i) {
            if (isArithmetic(i)) {
                return cs[i];
            }
            return isBranch(i) ? bs[i] : NONE;
        }
    }

    /** What is put first is taken first; whoever puts or takes has looked at the size before. */
    private static final class Fifo {
        final int[] things;
        int first;
        int size;

        Fifo(int places) {
            things = new int[places];
        }

        void empty() {
            first = 0;
            size = 0;
        }

        boolean hasRoomFor(int n) {
            return size + n <= things.length;
        }

        void put(int thing) {
            int last = first + size;
            things[last < things.length ? last : last - things.length] = thing;
            size++;
        }

        int take() {
            int thing = things[first];
            first = first + 1 < things.length ? first + 1 : 0;
            size--;
            return thing;
        }
    }

    /** The list of stores that are not yet written into the memory of the streams. */
    private static final class StoreList {
        final int[] memory;
        final int[] addresses = new int[MOST_STORES];
        final int[] values = new int[MOST_STORES];
        final boolean[] known = new boolean[MOST_STORES];
        int first;
        int size;

        StoreList(int[] memory) {
            this.memory = memory;
        }

        void empty() {
            first = 0;
            size = 0;
        }

        boolean isFull() {
            return size >= MOST_STORES;
        }

        boolean holds(int address) {
            for (int k = 0; k < size; k++) {
                if (addresses[slot(k)] == address) {
                    return true;
                }
            }
            return false;
        }

        void enter(int address) {
            int s = slot(size);
            addresses[s] = address;
            known[s] = false;
            size++;
        }

        void enterWith(int address, int value) {
            int s = slot(size);
            enter(address);
            know(s, value);
        }

        /**
         * Only the first store can be the first that misses its value: with one it would have left.
         * False when there is none; then nothing is changed.
         */
        boolean give(int value) {
            if (size == 0) {
                return false;
            }
            know(first, value);
            return true;
        }

        private void know(int s, int value) {
            values[s] = value;
            known[s] = true;
            while (size > 0 && known[first]) {
                memory[addresses[first]] = values[first];
                first = (first + 1) % MOST_STORES;
                size--;
            }
        }

        private int slot(int k) {
            return (first + k) % MOST_STORES;
        }
    }

    /** All that the two streams share: the memory, the queues and the list. */
    private static final class Link {
        final int[] memory;
        final Fifo loads;
        final Fifo stored;
        final Fifo valueOutcomes;
        final Fifo addressOutcomes;
        final Fifo passed;
        final StoreList stores;

        Link() {
            memory = new int[WORDS];
            loads = new Fifo(4);
            stored = new Fifo(4);
            valueOutcomes = new Fifo(4);
            addressOutcomes = new Fifo(4);
            passed = new Fifo(6);
            stores = new StoreList(memory);
        }

        void begin(int[] words) {
            System.arraycopy(words, 0, memory, 0, WORDS);
            loads.empty();
            stored.empty();
            valueOutcomes.empty();
            addressOutcomes.empty();
            passed.empty();
            stores.empty();
        }
    }

    /** What a run has written: all of it counted, the first things kept. */
    private static final class Written {
        final int[] kept = new int[MOST_KEPT];
        int count;

        void empty() {
            count = 0;
        }

        void write(int thing) {
            if (count < MOST_KEPT) {
                kept[count] = thing;
            }
            count++;
        }

        int thing(int i) {
            return i >= 0 && i < count && i < MOST_KEPT ? kept[i] : 0;
        }
    }

    /** Something that goes along the program with registers of its own. */
    private abstract static class Run {
        final Program program;
        final int[] registers = new int[REGISTERS];
        int at;

        Run(Program program) {
            this.program = program;
        }

        /** Makes one move if it can; false, with nothing changed, when it waits or has ended. */
        abstract boolean step();

        int advance(int n) {
            int moves = 0;
            while (moves < n && step()) {
                moves++;
            }
            return moves;
        }

        boolean hasEnded() {
            return at >= program.size;
        }

        /** A branch may have gone beyond the place right behind the last instruction. */
        int position() {
            return Math.min(at, program.size);
        }

        int wordAddress(int i) {
            return registers[program.bs[i]] + program.cs[i] & ADDRESS_BITS;
        }

        int behind(int i, boolean outcome) {
            return outcome ? program.cs[i] : i + 1;
        }

        boolean test(int i) {
            int a = registers[program.as[i]];
            int b = registers[program.bs[i]];
            return program.kinds[i] == LESS ? a < b : a != b;
        }

        /** Only for SET, ADD, SUB and MUL. */
        void compute(int i) {
            registers[program.as[i]] = program.kinds[i] == SET ? program.cs[i] : combined(i);
        }

        private int combined(int i) {
            int b = registers[program.bs[i]];
            int c = registers[program.cs[i]];
            switch (program.kinds[i]) {
                case ADD:
                    return b + c;
                case SUB:
                    return b - c;
                default:
                    return b * c;
            }
        }
    }

    private static final class PlainRun extends Run {
        final int[] memory = new int[WORDS];
        final Written written = new Written();

        PlainRun(Program program) {
            super(program);
        }

        void begin(int[] words) {
            System.arraycopy(words, 0, memory, 0, WORDS);
            Arrays.fill(registers, 0);
            written.empty();
            at = 0;
        }

        @Override
        boolean step() {
            if (hasEnded()) {
                return false;
            }
            int i = at;
            at = program.isBranch(i) ? behind(i, test(i)) : i + 1;
            perform(i);
            return true;
        }

        private void perform(int i) {
            int a = program.as[i];
            switch (program.kinds[i]) {
                case LOAD:
                    registers[a] = memory[wordAddress(i)];
                    break;
                case STORE:
                    memory[wordAddress(i)] = registers[a];
                    break;
                case OUT:
                    written.write(registers[a]);
                    break;
                case LESS:
                case DIFFER:
                    break;
                default:
                    compute(i);
                    break;
            }
        }
    }

    /** One of the two streams; it always stands at a part that is not nothing, or has ended. */
    private abstract static class Stream extends Run {
        final Link link;
        final boolean[] nothings;
        int left;

        Stream(Program program, Link link, boolean[] nothings) {
            super(program);
            this.link = link;
            this.nothings = nothings;
        }

        void begin() {
            Arrays.fill(registers, 0);
            left = 0;
            at = 0;
            goOver();
        }

        boolean leaveFor(int next) {
            at = next;
            left++;
            goOver();
            return true;
        }

        boolean sendOutcome(int i, Fifo outcomes) {
            boolean outcome = test(i);
            outcomes.put(outcome ? 1 : 0);
            return leaveFor(behind(i, outcome));
        }

        boolean followOutcome(int i, Fifo outcomes) {
            if (outcomes.size == 0) {
                return false;
            }
            return leaveFor(behind(i, outcomes.take() != 0));
        }

        private void goOver() {
            while (at < program.size && nothings[at]) {
                at++;
                left++;
            }
        }
    }

    private static final class AddressStream extends Stream {
        /** Whether the branch where it is has had its registers put into R already. */
        boolean handed;

        AddressStream(Program program, Link link) {
            super(program, link, program.nothingForAddresses);
        }

        @Override
        void begin() {
            handed = false;
            super.begin();
        }

        @Override
        boolean step() {
            if (hasEnded()) {
                return false;
            }
            return program.streams[at] == ADDRESS_STREAM ? doOwn(at) : serve(at);
        }

        /** Whether its next part is to take an outcome. */
        boolean isAtOutcome() {
            return !hasEnded() && program.streams[at] == VALUE_STREAM && program.isBranch(at)
                    && (handed || program.passedCounts[at] == 0);
        }

        private boolean doOwn(int i) {
            switch (program.kinds[i]) {
                case LOAD:
                    return load(i);
                case STORE:
                    return store(i);
                case LESS:
                case DIFFER:
                    return link.valueOutcomes.hasRoomFor(1) && sendOutcome(i, link.valueOutcomes);
                default:
                    compute(i);
                    return leaveFor(i + 1);
            }
        }

        private boolean load(int i) {
            int word = wordAddress(i);
            if (link.stores.holds(word)) {
                return false;
            }
            registers[program.as[i]] = link.memory[word];
            return leaveFor(i + 1);
        }

        private boolean store(int i) {
            if (link.stores.isFull()) {
                return false;
            }
            int a = program.as[i];
            if (program.isAddressRegister(a)) {
                link.stores.enterWith(wordAddress(i), registers[a]);
            } else if (link.stored.size > 0) {
                link.stores.enterWith(wordAddress(i), link.stored.take());
            } else {
                link.stores.enter(wordAddress(i));
            }
            return leaveFor(i + 1);
        }

        private boolean serve(int i) {
            if (program.kinds[i] == LOAD) {
                return sendLoad(i);
            }
            if (isAtOutcome()) {
                boolean moved = followOutcome(i, link.addressOutcomes);
                handed = handed && !moved;
                return moved;
            }
            if (!link.passed.hasRoomFor(program.passedCounts[i])) {
                return false;
            }
            hand(program.firstPassed[i]);
            hand(program.secondPassed[i]);
            if (program.isBranch(i)) {
                handed = true;
                return true;
            }
            return leaveFor(i + 1);
        }

        private boolean sendLoad(int i) {
            int word = wordAddress(i);
            if (link.stores.holds(word) || !link.loads.hasRoomFor(1)) {
                return false;
            }
            link.loads.put(link.memory[word]);
            return leaveFor(i + 1);
        }

        private void hand(int r) {
            if (r != NONE) {
                link.passed.put(registers[r]);
            }
        }
    }

    private static final class ValueStream extends Stream {
        final Written written = new Written();

        ValueStream(Program program, Link link) {
            super(program, link, program.nothingForValues);
        }

        @Override
        void begin() {
            written.empty();
            super.begin();
        }

        @Override
        boolean step() {
            if (hasEnded()) {
                return false;
            }
            if (program.streams[at] == VALUE_STREAM) {
                return program.kinds[at] == LOAD ? receiveLoad(at) : doOwn(at);
            }
            return program.isBranch(at) ? followOutcome(at, link.valueOutcomes) : giveStored(at);
        }

        private boolean receiveLoad(int i) {
            if (link.loads.size == 0) {
                return false;
            }
            registers[program.as[i]] = link.loads.take();
            return leaveFor(i + 1);
        }

        private boolean doOwn(int i) {
            boolean branch = program.isBranch(i);
            if (link.passed.size < program.passedCounts[i]
                    || branch && !link.addressOutcomes.hasRoomFor(1)) {
                return false;
            }
            receive(program.firstPassed[i]);
            receive(program.secondPassed[i]);
            if (branch) {
                return sendOutcome(i, link.addressOutcomes);
            }
            if (program.kinds[i] == OUT) {
                written.write(registers[program.as[i]]);
            } else {
                compute(i);
            }
            return leaveFor(i + 1);
        }

        /** This stream never writes an address register, so its own one is free to hold what came. */
        private void receive(int r) {
            if (r != NONE) {
                registers[r] = link.passed.take();
            }
        }

        private boolean giveStored(int i) {
            int given = registers[program.as[i]];
            if (!link.stores.give(given)) {
                if (!link.stored.hasRoomFor(1)) {
                    return false;
                }
                link.stored.put(given);
            }
            return leaveFor(i + 1);
        }
    }
}
