import java.util.ArrayList;
import java.util.List;

/** The edges that 'Terms' names, but for the queues and the list: see QueueEdgesTest. */
public final class TermsEdgesTest extends Edges {
    /** b, c and the word that their sum counts as. */
    private static final int[][] SUMS = {
        {0, -33, 31}, {0, -32, 0}, {0, -31, 1}, {0, -2, 30}, {0, -1, 31}, {-1, 0, 31}, {-1, 1, 0},
        {0, 0, 0}, {0, 1, 1}, {1, 0, 1}, {0, 30, 30}, {0, 31, 31}, {31, 0, 31}, {15, 16, 31},
        {0, 32, 0}, {32, 0, 0}, {31, 1, 0}, {16, 16, 0}, {0, 33, 1}, {32, 31, 31}, {32, 32, 0},
        {MAX, 0, 31}, {MAX, 1, 0}, {0, MAX, 31}, {MIN, 0, 0}, {MIN, -1, 31}, {0, MIN, 0}, {MAX, MAX, 30}};

    public static void main(String[] args) {
        upToTwentyFourInstructions();
        registersZeroToSeven();
        sumsAsIntsAre();
        differencesAsIntsAre();
        productsAsIntsAre();
        lessAndDifferAtTheirEdges();
        loadsByTheLowestFiveBits();
        storesByTheLowestFiveBits();
        loadsMeetStoresByTheLowestFiveBits();
        placesToGoTo();
        placesToGoToOfAFullProgram();
        aBranchThatIsNotTakenGoesBehind();
        aRunEndsWhereThereIsNoInstruction();
        runsBeginAtZero();
        addressRegistersByWhatReadsThem();
        partsThatAreNothing();
        nothingIsGoneOverBeforeAndBehind();
        allPartsAreNothing();
        nothingIsGoneOverBehindABranch();
        puttingAndTakingAreTwoMoves();
        addingBeginsAnew();
        fillingBeginsAnew();
        takingAwayBeginsAnew();
        refusedCallsChangeNothing();
        refusedAddAtTwentyFourChangesNothing();
        CHECK.end();
    }

    /** 'A PROGRAM is up to 24 INSTRUCTIONS, numbered from 0': 23, 24 and 25, and all of them run. */
    private static void upToTwentyFourInstructions() {
        SlippedStreams x = new SlippedStreams();
        for (int i = 0; i < 23; i++) {
            due("number " + i, x.add(Check.SET, 1, 0, i), i);
        }
        due("place behind 23", x.plain(50) + x.value(50), 46);
        due("the last of 23", x.register(1, true), 22);
        due("the 24th", x.add(Check.SET, 1, 0, 99), 23);
        due("the 25th", x.add(Check.SET, 1, 0, 100), NONE);
        due("plain does 24", x.plain(50), 24);
        due("value does 24", x.value(50), 24);
        due("the last of 24 plainly", x.register(1, true), 99);
        due("the last of 24", x.register(1, false), 99);
        due("streamOf the 24th", x.streamOf(23), 1);
        due("streamOf the 25th", x.streamOf(24), NONE);
        due("there are 24", x.clear(), 24);
        SlippedStreams y = new SlippedStreams();
        y.add(Check.LOAD, 0, 0, 0);
        for (int i = 1; i < 24; i++) {
            y.add(Check.SET, 0, 0, i);
        }
        due("address does 24", y.address(50), 24);
        due("the last of 24 addresses", y.register(0, false), 23);
    }

    /** 'over 8 REGISTERS 0 .. 7': the first and the last one stand in each place of each kind. */
    private static void registersZeroToSeven() {
        for (int r = 0; r <= 7; r++) {
            int other = r == 3 ? 4 : 3;
            SlippedStreams x = with(set(r, 5), set(other, 2), sub(r, r, other), sub(other, r, other),
                    out(r), differ(r, other, 7), out(r), less(other, r, 24), out(other));
            due("plain with " + r, x.plain(50), 7);
            x.both(50);
            for (int plain = 0; plain < 2; plain++) {
                due("r" + r, x.register(r, plain == 1), 3);
                due("other than " + r, x.register(other, plain == 1), 1);
                due("written with " + r, x.outputs(plain == 1), 1);
                due("out of " + r, x.output(0, plain == 1), 3);
            }
            SlippedStreams y = with(set(r, 4), store(r, r, 1), load(r, r, 1), load(other, r, 1));
            y.both(50);
            y.plain(50);
            for (int plain = 0; plain < 2; plain++) {
                due("loaded by " + r, y.register(r, plain == 1), 4);
                due("loaded beside " + r, y.register(other, plain == 1), 4);
                due("stored by " + r, y.peek(5, plain == 1), 4);
            }
        }
    }

    /** Register 2 becomes b op c by the plain run and by each stream, and with addresses from R. */
    private static void dueReckoned(String what, int kind, int b, int c, int want) {
        int[] reckon = Check.in(kind, 2, 0, 1);
        SlippedStreams values = with(set(0, b), set(1, c), reckon);
        values.plain(50);
        values.value(50);
        due(what + " plainly", values.register(2, true), want);
        due(what + " of values", values.register(2, false), want);
        SlippedStreams addresses = with(set(0, b), set(1, c), reckon, load(3, 2, 0));
        addresses.address(50);
        due(what + " of addresses", addresses.register(2, false), want);
        SlippedStreams passed = with(set(0, b), set(1, c), reckon, load(3, 0, 0), load(3, 1, 0));
        passed.both(50);
        due(what + " of addresses passed on", passed.register(2, false), want);
    }

    /** '+ - * as ints are': sums. */
    private static void sumsAsIntsAre() {
        int[][] sums = {{MAX, 0, MAX}, {MAX, 1, MIN}, {MAX - 1, 1, MAX}, {MIN, -1, MAX}, {MIN, 0, MIN},
            {MIN, MIN, 0}, {MAX, MAX, -2}, {-1, 1, 0}, {MIN, MAX, -1}};
        for (int[] s : sums) {
            dueReckoned(s[0] + " + " + s[1], Check.ADD, s[0], s[1], s[2]);
        }
    }

    /** '+ - * as ints are': differences. */
    private static void differencesAsIntsAre() {
        int[][] differences = {{MIN, 0, MIN}, {MIN, 1, MAX}, {MIN + 1, 1, MIN}, {MAX, -1, MIN},
            {0, MIN, MIN}, {-1, MIN, MAX}, {MIN, MIN, 0}, {0, 1, -1}, {1, 0, 1}};
        for (int[] d : differences) {
            dueReckoned(d[0] + " - " + d[1], Check.SUB, d[0], d[1], d[2]);
        }
    }

    /** '+ - * as ints are': products. */
    private static void productsAsIntsAre() {
        int[][] products = {{46340, 46340, 2147395600}, {46341, 46341, -2147479015}, {65536, 32767, MAX - 65535},
            {65536, 32768, MIN}, {65536, 65536, 0}, {MIN, -1, MIN}, {MAX, -1, MIN + 1}, {MAX, MAX, 1},
            {MAX, 2, -2}, {MIN, 0, 0}, {-1, -1, 1}};
        for (int[] p : products) {
            dueReckoned(p[0] + " * " + p[1], Check.MUL, p[0], p[1], p[2]);
        }
    }

    /** 'if a < b, if a is not b': less, the same and more, also where ints begin and end. */
    private static void lessAndDifferAtTheirEdges() {
        int[][] pairs = {{0, 1}, {0, 0}, {1, 0}, {-1, 0}, {0, -1}, {-1, -1}, {MAX - 1, MAX}, {MAX, MAX},
            {MAX, MAX - 1}, {MIN, MIN + 1}, {MIN, MIN}, {MIN + 1, MIN}, {MIN, MAX}, {MAX, MIN}, {0, MIN}};
        for (int[] p : pairs) {
            dueGone(Check.LESS, p[0], p[1], p[0] < p[1]);
            dueGone(Check.DIFFER, p[0], p[1], p[0] != p[1]);
        }
    }

    private static void dueGone(int kind, int a, int b, boolean outcome) {
        String what = "kind " + kind + " of " + a + " and " + b;
        int[] branch = Check.in(kind, 0, 1, 4);
        SlippedStreams values = with(set(0, a), set(1, b), branch, out(0), out(0));
        values.plain(3);
        values.value(3);
        due(what + " plainly", values.place(2), outcome ? 4 : 3);
        due(what + " of values", values.place(1), outcome ? 4 : 3);
        SlippedStreams addresses = with(set(0, a), set(1, b), branch, out(0), out(0),
                load(2, 0, 0), load(2, 1, 0));
        addresses.address(3);
        due(what + " of addresses", addresses.place(0), outcome ? 4 : 3);
        addresses.value(1);
        due(what + " of addresses, the value stream", addresses.place(1), outcome ? 4 : 3);
        for (int address = 0; address < 2; address++) {
            SlippedStreams mixed = with(set(0, a), set(1, b), branch, out(address), out(address),
                    load(2, address, 0));
            mixed.address(50);
            mixed.value(2);
            mixed.address(1);
            due(what + ", one passed on", mixed.place(1), outcome ? 4 : 3);
            due(what + ", one passed on and the outcome back", mixed.place(0), outcome ? 4 : 3);
        }
    }

    /** 'Addresses count by their lowest 5 bits': the LOAD of each run. */
    private static void loadsByTheLowestFiveBits() {
        for (int[] s : SUMS) {
            String what = "word at " + s[0] + " + " + s[1];
            SlippedStreams x = with(set(0, s[0]), load(1, 0, s[1]));
            x.fill(100, 1);
            x.plain(50);
            x.both(50);
            due(what + " plainly", x.register(1, true), 100 + s[2]);
            due(what + " for a value", x.register(1, false), 100 + s[2]);
            SlippedStreams y = with(set(0, s[0]), load(1, 0, s[1]), load(2, 1, 0));
            y.fill(100, 1);
            y.address(2);
            due(what + " for an address", y.register(1, false), 100 + s[2]);
        }
    }

    /** 'Addresses count by their lowest 5 bits': the STORE of each run, by each way to its value. */
    private static void storesByTheLowestFiveBits() {
        for (int[] s : SUMS) {
            String what = "store at " + s[0] + " + " + s[1];
            SlippedStreams x = with(set(0, s[0]), set(1, 7), store(1, 0, s[1]));
            x.plain(50);
            x.address(50);
            due(what + " misses its value", x.queue(LIST), 1);
            x.value(50);
            dueOnlyWord(what + " plainly", x, true, s[2], 7);
            dueOnlyWord(what + " by the list", x, false, s[2], 7);
            x.reset();
            x.value(50);
            x.address(50);
            dueOnlyWord(what + " by S", x, false, s[2], 7);
            SlippedStreams y = with(set(0, s[0]), set(1, 9), add(1, 1, 1), store(1, 0, s[1]), load(2, 1, 0));
            y.address(4);
            dueOnlyWord(what + " of an address", y, false, s[2], 18);
        }
    }

    private static void dueOnlyWord(String what, SlippedStreams x, boolean plain, int word, int value) {
        for (int i = 0; i < 32; i++) {
            due(what + ": word " + i, x.peek(i, plain), i == word ? value : 0);
        }
    }

    /** 'waits while a store in the list has the same address', by the lowest 5 bits; not beside it. */
    private static void loadsMeetStoresByTheLowestFiveBits() {
        for (int[] s : SUMS) {
            for (int beside = -1; beside <= 1; beside++) {
                for (int a = 1; a <= 2; a++) {
                    String what = "load at " + s[0] + " + " + s[1] + " beside " + beside + " into " + a;
                    SlippedStreams x = with(set(0, s[0]), store(3, 0, s[1]), set(0, 0),
                            load(a, 0, s[2] + beside), load(4, 2, 0));
                    due(what, x.address(4), beside == 0 ? 3 : 4);
                    due(what + ": place", x.place(0), beside == 0 ? 3 : 4);
                    due(what + ": L", x.queue(L), beside == 0 || a == 2 ? 0 : 1);
                }
            }
        }
    }

    /** 'the next instruction is number c, 0 .. 24', also one behind the last instruction. */
    private static void placesToGoTo() {
        int size = 6;
        for (int c = 0; c <= 24; c++) {
            int there = Math.min(c, size);
            SlippedStreams x = with(set(6, 1), differ(6, 7, c), out(0), out(0), load(1, 0, 0), load(1, 0, 0));
            due("place 0 before the outcome", x.place(0), 1);
            x.plain(2);
            x.value(2);
            x.address(1);
            due("plainly to " + c, x.place(2), there);
            due("value to " + c, x.place(1), there);
            due("address behind it to " + c, x.place(0), c == 0 ? 1 : there);
            dueEndedOrNot("to " + c, x, c >= size);
            SlippedStreams y = with(set(0, 1), differ(0, 7, c), out(0), out(0), load(1, 0, 0), load(1, 7, 0));
            y.address(2);
            y.value(1);
            due("address to " + c, y.place(0), there);
            due("value behind it to " + c, y.place(1), c == 0 ? 1 : there);
            due("both are as far, to " + c, y.slip(), c == 0 ? -1 : 0);
        }
    }

    private static void dueEndedOrNot(String what, SlippedStreams x, boolean ended) {
        due(what + ", address ended", x.address(1) == 0 && x.losses() == 0 ? 1 : 0, ended ? 1 : 0);
        due(what + ", plain ended", x.plain(1), ended ? 0 : 1);
        if (ended) {
            due(what + ", value ended", x.value(50), 0);
            due(what + ", no slip", x.slip(), 0);
        }
    }

    /** A program of 24: number 23 is its last instruction, number 24 is its end. */
    private static void placesToGoToOfAFullProgram() {
        for (int c = 22; c <= 24; c++) {
            List<int[]> program = new ArrayList<>(List.of(set(1, 1), differ(1, 2, c)));
            while (program.size() < 24) {
                program.add(out(1));
            }
            SlippedStreams x = with(program);
            x.plain(2);
            x.value(2);
            due("full: plainly to " + c, x.place(2), c);
            due("full: value to " + c, x.place(1), c);
            due("full: plain does the rest from " + c, x.plain(50), 24 - c);
            due("full: value does the rest from " + c, x.value(50), 24 - c);
            due("full: address follows to its end", x.address(50), 1);
            due("full: address ended", x.place(0), 24);
        }
    }

    /** 'Otherwise the next instruction is the one behind', wherever c would have gone. */
    private static void aBranchThatIsNotTakenGoesBehind() {
        for (int c : new int[] {0, 1, 2, 3, 4, 5, 24}) {
            SlippedStreams x = with(out(0), less(1, 1, c), out(0), load(2, 0, 0));
            x.plain(2);
            due("not taken plainly", x.place(2), 2);
            x.address(1);
            x.value(2);
            due("not taken, value", x.place(1), 2);
            x.address(1);
            due("not taken, address", x.place(0), 2);
            SlippedStreams y = with(out(0), differ(0, 0, c), out(0), load(2, 0, 0));
            y.address(2);
            due("not taken, own of address", y.place(0), 2);
            y.value(2);
            due("not taken, value behind it", y.place(1), 2);
        }
    }

    /** 'A run ends at an instruction that there is not', and 'A stream HAS ENDED when' it is there. */
    private static void aRunEndsWhereThereIsNoInstruction() {
        SlippedStreams none = new SlippedStreams();
        due("none: plain", none.plain(1), 0);
        due("none: address", none.address(1), 0);
        due("none: value", none.value(1), 0);
        SlippedStreams x = with(set(1, 4), load(2, 0, 0));
        due("before the end, plain", x.plain(1), 1);
        due("before the end, place", x.place(2), 1);
        due("to the end, plain", x.plain(1), 1);
        due("at the end, plain", x.plain(1), 0);
        due("at the end, place", x.place(2), 2);
        due("to the end, address", x.address(1), 1);
        due("at the end, address", x.address(1), 0);
        due("at the end, place of address", x.place(0), 2);
        due("before the end, value", x.value(1), 1);
        due("before the end, place of value", x.place(1), 1);
        due("to the end, value", x.value(1), 1);
        due("at the end, value", x.value(1), 0);
        due("at the end, place of value", x.place(1), 2);
    }

    /** 'begins at instruction 0 with all registers 0 and the memory as it was filled', all three. */
    private static void runsBeginAtZero() {
        SlippedStreams x = with(out(1), load(1, 0, 0), store(2, 0, 1));
        x.fill(-3, 5);
        for (int plain = 0; plain < 2; plain++) {
            for (int r = 0; r < 8; r++) {
                due("begins with 0 in " + r, x.register(r, plain == 1), 0);
            }
            for (int i = 0; i < 32; i++) {
                due("begins with word " + i, x.peek(i, plain == 1), -3 + 5 * i);
            }
        }
        x.both(1);
        x.plain(1);
        due("begins at instruction 0", x.outputs(false), 1);
        due("begins at instruction 0 plainly", x.outputs(true), 1);
    }

    /** 'is b of some LOAD or STORE, or is read by an ADD, SUB or MUL that writes an address register'. */
    private static void addressRegistersByWhatReadsThem() {
        due("b of LOAD", with(load(1, 2, 3)).addressRegisters(), 1);
        due("b of STORE", with(store(1, 2, 3)).addressRegisters(), 1);
        due("b of two", with(store(1, 2, 3), load(1, 4, 3)).addressRegisters(), 2);
        due("b and c of ADD", with(add(1, 2, 3), load(0, 1, 0)).addressRegisters(), 3);
        due("b and c of SUB", with(sub(1, 2, 3), load(0, 1, 0)).addressRegisters(), 3);
        due("b and c of MUL", with(mul(1, 2, 3), load(0, 1, 0)).addressRegisters(), 3);
        due("the same one", with(mul(1, 1, 1), load(1, 1, 0)).addressRegisters(), 1);
        due("of a value", with(add(1, 2, 3), load(1, 0, 0)).addressRegisters(), 1);
        due("SET reads none", with(Check.in(Check.SET, 0, 2, 3), load(1, 0, 0)).addressRegisters(), 1);
        due("LESS makes none", with(less(0, 2, 3), load(1, 0, 0)).addressRegisters(), 1);
        due("DIFFER makes none", with(differ(2, 0, 3), load(1, 0, 0)).addressRegisters(), 1);
        due("OUT makes none", with(out(3), load(1, 0, 0)).addressRegisters(), 1);
        due("by a LOAD of an address", with(load(0, 2, 3), load(1, 0, 0)).addressRegisters(), 2);
        SlippedStreams all = with(add(6, 7, 7), sub(4, 5, 6), mul(2, 3, 4), add(1, 1, 2), load(0, 1, 0));
        due("all but 0", all.addressRegisters(), 7);
        CHECK.addAll(all, store(7, 0, 0));
        due("all eight", all.addressRegisters(), 8);
    }

    /** Which part of which kind is nothing: each one stands before a LOAD that both have a part of. */
    private static void partsThatAreNothing() {
        duePart("SET of an address", set(0, 1), true, false);
        duePart("SET of a value", set(1, 1), false, true);
        duePart("ADD of an address", add(0, 0, 0), true, false);
        duePart("SUB of values", sub(1, 1, 2), false, true);
        duePart("MUL of an address and a value", mul(1, 0, 2), true, true);
        duePart("ADD of a value and an address", add(1, 2, 0), true, true);
        duePart("LOAD of an address", load(0, 0, 0), true, false);
        duePart("LOAD of a value", load(1, 0, 0), true, true);
        duePart("STORE of an address", store(0, 0, 0), true, false);
        duePart("STORE of a value", store(1, 0, 0), true, true);
        duePart("LESS of addresses", less(0, 0, 0), true, true);
        duePart("LESS of values", less(1, 2, 0), true, true);
        duePart("DIFFER of an address and a value", differ(0, 1, 0), true, true);
        duePart("OUT of an address", out(0), true, true);
        duePart("OUT of a value", out(1), false, true);
    }

    private static void duePart(String what, int[] instruction, boolean forAddress, boolean forValue) {
        SlippedStreams x = with(instruction, load(3, 0, 9));
        due(what + " for address", x.place(0), forAddress ? 0 : 1);
        due(what + " for value", x.place(1), forValue ? 0 : 1);
        due(what + ", slip", x.slip(), (forAddress ? 0 : 1) - (forValue ? 0 : 1));
    }

    /** 'a part that is nothing is gone over without counting, before and behind others'. */
    private static void nothingIsGoneOverBeforeAndBehind() {
        SlippedStreams x = with(set(1, 1), set(2, 2), set(0, 3), out(1), out(2), store(0, 0, 0), set(1, 5),
                set(1, 6), set(0, 4), load(0, 0, 0), set(0, 8), set(1, 7), set(1, 8));
        due("nothing before, address", x.place(0), 2);
        due("nothing before, value", x.place(1), 0);
        due("nothing before, slip", x.slip(), 2);
        due("one move of address", x.address(1), 1);
        due("nothing behind it", x.place(0), 5);
        due("slip behind it", x.slip(), 5);
        due("two moves of value", x.value(2), 2);
        due("nothing behind these", x.place(1), 3);
        due("slip behind these", x.slip(), 2);
        due("one move more", x.address(1), 1);
        due("two parts of nothing behind it", x.place(0), 8);
        due("value does four, over one between", x.value(4), 4);
        due("three parts of nothing behind it", x.place(1), 11);
        due("slip where value is ahead", x.slip(), -3);
        due("the last three of address", x.address(50), 3);
        due("nothing behind the last", x.place(0), 13);
        due("the last two of value", x.value(50), 2);
        due("ended", x.place(1), 13);
        due("slip at the end", x.slip(), 0);
        due("nothing more", x.both(50), 0);
    }

    /** Nothing but parts that are nothing: such a stream has ended from the beginning. */
    private static void allPartsAreNothing() {
        for (int size : new int[] {1, 2, 23, 24}) {
            List<int[]> values = new ArrayList<>();
            List<int[]> addresses = new ArrayList<>(List.of(load(0, 0, 0)));
            for (int i = 0; i < size; i++) {
                values.add(out(1));
            }
            while (addresses.size() < size) {
                addresses.add(store(0, 0, 1));
            }
            SlippedStreams x = with(values);
            due(size + " values: address is at the end", x.place(0), size);
            due(size + " values: slip", x.slip(), size);
            due(size + " values: no move", x.address(50), 0);
            due(size + " values: no loss", x.losses(), 0);
            due(size + " values: both", x.both(50), size);
            due(size + " values: slip at the end", x.slip(), 0);
            SlippedStreams y = with(addresses);
            due(size + " addresses: value is at the end", y.place(1), size);
            due(size + " addresses: slip", y.slip(), -size);
            due(size + " addresses: no move", y.value(50), 0);
            due(size + " addresses: both", y.both(50), size);
            due(size + " addresses: slip at the end", y.slip(), 0);
        }
    }

    /** A branch back or ahead may go to a part that is nothing: it is gone over in the same move. */
    private static void nothingIsGoneOverBehindABranch() {
        SlippedStreams x = with(set(1, 1), set(1, 1), out(0), differ(1, 2, 0), load(3, 0, 0));
        due("value goes back", x.address(1) + x.value(4), 5);
        due("address goes back", x.address(1), 1);
        due("back and over two", x.place(0), 2);
        due("left behind: six and four", x.slip(), 2);
        SlippedStreams y = with(set(0, 1), differ(0, 7, 4), out(1), out(1), set(1, 1), set(1, 2), load(3, 0, 0),
                load(3, 7, 0));
        due("address goes ahead", y.address(2), 2);
        due("ahead and over two", y.place(0), 6);
        due("left behind: four and one", y.slip(), 4 - 1);
    }

    /** 'puts a, and then b, into R ...; then, as a part of its own, takes the outcome from A'. */
    private static void puttingAndTakingAreTwoMoves() {
        for (int a = 0; a < 2; a++) {
            SlippedStreams x = with(less(a, 1 - a, 1), set(0, 1), load(2, 0, 0));
            due("putting is a move", x.address(1), 1);
            due("R has it", x.queue(R), 1);
            due("still at the branch", x.place(0), 0);
            due("nothing is left behind", x.slip(), 0);
            due("putting is no waiting", x.losses(), 0);
            due("taking waits", x.address(1), 0);
            due("not put again", x.queue(R), 1);
            due("that is a loss", x.losses(), 1);
            due("value branches", x.value(1), 1);
            due("A has the outcome", x.queue(A), 1);
            due("taking is a move", x.address(1), 1);
            due("A is empty", x.queue(A), 0);
            due("behind the branch", x.place(0), 1);
            due("no more losses", x.losses(), 1);
        }
        SlippedStreams loop = with(differ(0, 1, 0), less(1, 0, 0), load(2, 0, 0));
        due("value waits for R", loop.value(1), 0);
        due("three turns", loop.both(3), 2 + 1 + 2);
        due("the second branch has its register put", loop.queue(R), 0);
        due("and its outcome", loop.queue(A), 1);
        due("no loss in three turns", loop.losses(), 0);
        SlippedStreams values = with(less(1, 2, 0), load(3, 0, 0));
        due("nothing to put is no move", values.address(1), 0);
        due("but a loss", values.losses(), 1);
        due("value branches at once", values.value(1), 1);
        due("taking alone is one move", values.address(1), 1);
        due("then the LOAD", values.place(0), 1);
    }

    /** In the middle of everything, with the address stream ahead. */
    private static SlippedStreams addressAhead() {
        SlippedStreams x = with(set(0, 2), set(1, 40), out(1), store(0, 0, 3), load(4, 0, 9), out(0),
                less(7, 0, 7), store(1, 0, 0), store(0, 0, 1), differ(1, 4, 1), load(5, 7, 1));
        x.fill(50, 3);
        x.address(50);
        x.address(50);
        x.value(2);
        x.plain(14);
        return x;
    }

    /** In the middle of everything, with the value stream ahead. */
    private static SlippedStreams valueAhead() {
        SlippedStreams x = with(set(1, 40), out(1), store(1, 0, 1), set(1, 41), store(1, 0, 2), out(1),
                differ(1, 2, 7), add(1, 1, 1), less(1, 2, 0), out(1), store(1, 0, 4));
        x.fill(-7, 4);
        x.value(50);
        x.address(1);
        x.plain(14);
        return x;
    }

    private static void dueInTheMiddle() {
        SlippedStreams x = addressAhead();
        int[] want = {1, 0, 1, 0, 1, 2};
        for (int q = 0; q <= 5; q++) {
            due("address ahead: queue " + q, x.queue(q), want[q]);
        }
        due("address ahead: losses", x.losses(), 2);
        due("address ahead: outputs", x.outputs(false), 1);
        SlippedStreams y = valueAhead();
        int[] wantToo = {0, 2, 0, 2, 0, 0};
        for (int q = 0; q <= 5; q++) {
            due("value ahead: queue " + q, y.queue(q), wantToo[q]);
        }
        due("value ahead: outputs", y.outputs(false), 3);
    }

    /** 'Whenever an instruction is added ... both runs begin anew': as an object never run before. */
    private static void addingBeginsAnew() {
        dueInTheMiddle();
        SlippedStreams x = addressAhead();
        SlippedStreams y = addressAhead();
        y.reset();
        due("added", x.add(Check.OUT, 4, 0, 0), 11);
        CHECK.addAll(y, out(4));
        dueSame("added", x, y);
        x.both(20);
        y.both(20);
        dueSame("added and run", x, y);
        SlippedStreams v = valueAhead();
        SlippedStreams w = valueAhead();
        w.reset();
        due("added too", v.add(Check.OUT, 4, 0, 0), 11);
        CHECK.addAll(w, out(4));
        dueSame("added too", v, w);
        due("losses anew", v.losses(), 0);
        due("slip anew", v.slip(), 2);
    }

    /** 'Whenever ... the memory is filled ... both runs begin anew', even with the same words. */
    private static void fillingBeginsAnew() {
        SlippedStreams x = addressAhead();
        SlippedStreams y = addressAhead();
        x.fill(50, 3);
        y.reset();
        dueSame("filled", x, y);
        x.both(20);
        y.both(20);
        dueSame("filled and run", x, y);
        SlippedStreams v = valueAhead();
        v.fill(0, 0);
        due("filled: S", v.queue(S), 0);
        due("filled: A", v.queue(A), 0);
        due("filled: outputs", v.outputs(false) + v.outputs(true), 0);
        due("filled: places", v.place(1) + v.place(2), 0);
        due("filled: the program is there", v.clear(), 11);
    }

    /** 'Whenever ... the instructions are taken away, both runs begin anew.' */
    private static void takingAwayBeginsAnew() {
        SlippedStreams empty = new SlippedStreams();
        empty.fill(50, 3);
        SlippedStreams x = addressAhead();
        due("taken away", x.clear(), 11);
        dueSame("taken away", x, empty);
        SlippedStreams emptyToo = new SlippedStreams();
        emptyToo.fill(-7, 4);
        SlippedStreams y = valueAhead();
        due("taken away too", y.clear(), 11);
        dueSame("taken away too", y, emptyToo);
    }

    private static List<Call> refused() {
        List<Call> calls = new ArrayList<>();
        for (int n : new int[] {MIN, -1, 0, 51, MAX}) {
            calls.add(x -> x.address(n));
            calls.add(x -> x.value(n));
            calls.add(x -> x.both(n));
            calls.add(x -> x.plain(n));
        }
        for (int bad : new int[] {MIN, -1, 8, MAX}) {
            for (int kind = 0; kind <= 8; kind++) {
                int k = kind;
                calls.add(x -> x.add(k, bad, 0, 0));
            }
            for (int kind = 1; kind <= 7; kind++) {
                int k = kind;
                calls.add(x -> x.add(k, 0, bad, 0));
            }
            for (int kind = 1; kind <= 3; kind++) {
                int k = kind;
                calls.add(x -> x.add(k, 0, 0, bad));
            }
        }
        for (int bad : new int[] {MIN, -1, 25, MAX}) {
            calls.add(x -> x.add(Check.LESS, 0, 0, bad));
            calls.add(x -> x.add(Check.DIFFER, 0, 0, bad));
        }
        for (int bad : new int[] {MIN, -1, 9, MAX}) {
            calls.add(x -> x.add(bad, 0, 0, 0));
        }
        for (int bad : new int[] {MIN, -1, 11, MAX}) {
            calls.add(x -> x.streamOf(bad));
            calls.add(x -> x.queue(bad));
        }
        return calls;
    }

    /** 'A call that is refused changes nothing': not now, and not in what comes behind it. */
    private static void refusedCallsChangeNothing() {
        List<Call> calls = refused();
        for (int i = 0; i < calls.size(); i++) {
            SlippedStreams x = i % 2 == 0 ? addressAhead() : valueAhead();
            SlippedStreams twin = i % 2 == 0 ? addressAhead() : valueAhead();
            due("refused call " + i, calls.get(i).on(x), NONE);
            dueSame("refused call " + i, x, twin);
            due("both behind refused call " + i, x.both(9), twin.both(9));
            due("plain behind refused call " + i, x.plain(9), twin.plain(9));
            dueSame("behind refused call " + i, x, twin);
        }
    }

    /** The same where the call is right, but for the 24 instructions that there are. */
    private static void refusedAddAtTwentyFourChangesNothing() {
        for (int kind = 0; kind <= 8; kind++) {
            SlippedStreams x = fullAndRunning();
            SlippedStreams twin = fullAndRunning();
            due("kind " + kind + " is the 25th", x.add(kind, 1, 1, 1), NONE);
            due("kind " + kind + " is wrong and the 25th", x.add(kind, 8, 1, 1), NONE);
            dueSame("kind " + kind + " at 24", x, twin);
            x.both(9);
            twin.both(9);
            dueSame("behind kind " + kind + " at 24", x, twin);
        }
    }

    private static SlippedStreams fullAndRunning() {
        SlippedStreams x = addressAhead();
        for (int number = 11; number < 24; number++) {
            due("not full yet", x.add(Check.OUT, 1, 0, 0), number);
        }
        x.address(50);
        x.value(2);
        x.plain(9);
        due("running", x.losses(), 1);
        return x;
    }
}
