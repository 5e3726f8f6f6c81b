import java.util.ArrayList;
import java.util.List;

/** The edges that the promises name, one by one: too small, too large, none, all, and right beside. */
public final class PromiseEdgesTest extends Edges {
    public static void main(String[] args) {
        newObject();
        addLooksAtEachArgument();
        addLooksAtTheKind();
        addKeepsWhatAKindHas();
        addCountsToTwentyFour();
        fillAsIntsAre();
        clearOfNoneOneAndAll();
        clearKeepsTheMemoryAsItWasFilled();
        resetBeginsAnewAnywhere();
        streamOfWhereThereIsNone();
        addressRegistersOfNoneAndAll();
        addressMakesUpToFifty();
        valueMakesUpToFifty();
        bothTakesUpToFiftyTurns();
        plainDoesUpToFifty();
        addressStopsWhereItWaitsOrHasEnded();
        valueStopsWhereItWaitsOrHasEnded();
        bothGoesOnWithOneStream();
        placeOfAnyOther();
        placeAndSlipWhereAllHasEnded();
        slipByLoops();
        slipOfWhatIsJumpedOver();
        queueOfNoSuchNumber();
        registerOfNoSuchNumber();
        registerOfTheStreamThatWritesIt();
        peekByTheLowestFiveBits();
        lossesOnlyWhereItHadToWait();
        lossesOnceACall();
        lossesOnceATurn();
        lossesForNothingButOutcomes();
        lossesSinceTheRunsBegan();
        outputsAroundSixtyFour();
        outputsOfEachRun();
        CHECK.end();
    }

    /** 1: 'No instructions; the memory is filled with 0.' */
    private static void newObject() {
        SlippedStreams x = new SlippedStreams();
        int[] all = seen(x);
        for (int i = 0; i < all.length; i++) {
            boolean streamOf = i >= 6 && i < 30;
            due("1 look " + i, all[i], streamOf ? NONE : 0);
        }
        due("1 no instructions", x.clear(), 0);
        CHECK.addAll(x, load(0, 1, 31), load(2, 0, 0));
        x.both(50);
        x.plain(50);
        due("1 loads 0", x.register(0, false) + x.register(0, true), 0);
        SlippedStreams y = new SlippedStreams();
        y.reset();
        due("1 reset of none", y.place(0) + y.place(1) + y.place(2) + y.slip(), 0);
    }

    private static boolean isRegister(int v) {
        return v >= 0 && v <= 7;
    }

    /** 2: 'a register that it has is not 0 .. 7, or a place c ... is not 0 .. 24 (what a kind has not may be any)'. */
    private static void addLooksAtEachArgument() {
        for (int kind = 0; kind <= 8; kind++) {
            boolean hasB = kind >= Check.ADD && kind <= Check.DIFFER;
            boolean registerC = kind >= Check.ADD && kind <= Check.MUL;
            boolean placeC = kind == Check.LESS || kind == Check.DIFFER;
            for (int v : new int[] {MIN, -25, -8, -1, 0, 1, 6, 7, 8, 9, 23, 24, 25, 32, 256, MAX}) {
                String what = "2 kind " + kind + " with " + v;
                boolean soundC = registerC ? isRegister(v) : !placeC || v >= 0 && v <= 24;
                due(what + " as a", new SlippedStreams().add(kind, v, 1, 1), isRegister(v) ? 0 : NONE);
                due(what + " as b", new SlippedStreams().add(kind, 1, v, 1), !hasB || isRegister(v) ? 0 : NONE);
                due(what + " as c", new SlippedStreams().add(kind, 1, 1, v), soundC ? 0 : NONE);
            }
        }
    }

    /** 2: 'kind is not 0 .. 8'. */
    private static void addLooksAtTheKind() {
        for (int kind : new int[] {MIN, -2, -1, 9, 10, 16, 256, MAX}) {
            SlippedStreams x = new SlippedStreams();
            due("2 no kind " + kind, x.add(kind, 1, 1, 1), NONE);
            due("2 no instruction of kind " + kind, x.clear(), 0);
        }
        SlippedStreams x = new SlippedStreams();
        for (int kind = 0; kind <= 8; kind++) {
            due("2 kind " + kind, x.add(kind, 1, 1, 1), kind);
        }
    }

    /** 2: numbers may be any int and are kept so; what a kind has not makes no difference. */
    private static void addKeepsWhatAKindHas() {
        for (int c : new int[] {MIN, MIN + 1, -1, 0, 1, 8, 25, MAX}) {
            SlippedStreams x = with(Check.in(Check.SET, 1, c, c), Check.in(Check.OUT, 1, c, c), load(2, 0, c),
                    store(1, 0, c));
            x.fill(20, 1);
            x.plain(50);
            x.both(50);
            due("2 SET of " + c, x.output(0, false), c);
            due("2 SET of " + c + " plainly", x.output(0, true), c);
            due("2 LOAD at " + c, x.register(2, false), 20 + (c & 31));
            due("2 STORE at " + c, x.peek(c, false), c);
            due("2 only b of LOAD and STORE", x.addressRegisters(), 1);
        }
    }

    /** 2: 'Answers its number; NONE when there are 24'. */
    private static void addCountsToTwentyFour() {
        SlippedStreams x = new SlippedStreams();
        for (int round = 0; round < 2; round++) {
            for (int i = 0; i < 24; i++) {
                due("2 a wrong one takes no number", x.add(9, 0, 0, 0), NONE);
                due("2 number " + i, x.add(i % 9, 1, 1, 1), i);
            }
            for (int kind = 0; kind <= 8; kind++) {
                due("2 there are 24, kind " + kind, x.add(kind, 1, 1, 1), NONE);
            }
            due("2 all of them", x.clear(), 24);
        }
    }

    /** 3: 'word i with first + i * step', as ints are. */
    private static void fillAsIntsAre() {
        int[][] fills = {{0, 0}, {0, 1}, {5, 0}, {0, -1}, {-1, 1}, {MAX, 1}, {MAX, -1}, {MIN, -1}, {MIN, 1},
            {MAX - 31, 1}, {MAX - 30, 1}, {MIN + 31, -1}, {MIN + 30, -1}, {0, MAX}, {0, MIN}, {MAX, MAX},
            {MIN, MIN}, {-1, MIN}, {0, MAX / 31}, {0, MAX / 31 + 1}, {0, 1 << 27}, {7, 1 << 28}};
        for (int[] f : fills) {
            SlippedStreams x = with(load(1, 0, 31), store(0, 0, 5));
            x.both(50);
            x.plain(50);
            x.fill(f[0], f[1]);
            for (int i = 0; i < 32; i++) {
                int want = (int) (f[0] + (long) i * f[1]);
                due("3 fill " + f[0] + ", " + f[1] + ": word " + i, x.peek(i, false), want);
                due("3 fill " + f[0] + ", " + f[1] + ": plain word " + i, x.peek(i, true), want);
            }
            x.both(50);
            x.plain(50);
            due("3 loads the word", x.register(1, false), (int) (f[0] + 31L * f[1]));
            due("3 loads the word plainly", x.register(1, true), (int) (f[0] + 31L * f[1]));
        }
    }

    /** 4: 'Answers how many there were': none, one, 23 and all 24. */
    private static void clearOfNoneOneAndAll() {
        SlippedStreams x = new SlippedStreams();
        for (int size : new int[] {0, 1, 2, 23, 24, 0}) {
            for (int i = 0; i < size; i++) {
                due("4 numbered from 0 again", x.add(Check.LOAD, 0, 1, 0), i);
            }
            due("4 there were " + size, x.clear(), size);
            due("4 there are none", x.clear(), 0);
            due("4 none to belong", x.streamOf(0), NONE);
            due("4 no address registers", x.addressRegisters(), 0);
            due("4 none to do", x.both(50) + x.plain(50), 0);
        }
    }

    /** 4: 'the memory is as it was filled', not as it was written, and not 0. */
    private static void clearKeepsTheMemoryAsItWasFilled() {
        SlippedStreams x = with(set(0, 4), store(0, 0, 0), store(1, 0, 1), load(2, 0, 0), store(2, 0, 2));
        x.fill(60, 2);
        x.both(50);
        x.plain(50);
        due("4 written", x.peek(4, false), 4);
        due("4 written plainly", x.peek(6, true), 4);
        due("4 five", x.clear(), 5);
        for (int i = 0; i < 32; i++) {
            due("4 word " + i, x.peek(i, false), 60 + 2 * i);
            due("4 plain word " + i, x.peek(i, true), 60 + 2 * i);
        }
        CHECK.addAll(x, load(3, 0, 4));
        x.both(50);
        x.plain(50);
        due("4 loaded behind it", x.register(3, false), 68);
        due("4 loaded behind it plainly", x.register(3, true), 68);
        due("4 one", x.clear(), 1);
        due("4 none", x.clear(), 0);
        due("4 the memory is still filled", x.peek(31, false), 122);
    }

    /** 5: 'Both runs begin anew': before the first move, in the middle, at the end, and twice. */
    private static void resetBeginsAnewAnywhere() {
        int[][] program = {set(0, 2), set(1, 6), out(1), store(1, 0, 0), load(0, 0, 7), less(1, 0, 7), out(0),
            store(0, 0, 1), differ(0, 7, 11), set(1, 1), out(1), load(3, 7, 0)};
        SlippedStreams fresh = with(program);
        fresh.fill(-9, 2);
        int[] want = seen(fresh);
        for (int turns = 0; turns <= 20; turns++) {
            SlippedStreams x = with(program);
            x.fill(-9, 2);
            for (int i = 0; i < turns; i++) {
                x.plain(1);
                x.address(turns % 3 == 0 ? 2 : 1);
                x.value(turns % 3 == 1 ? 2 : 1);
            }
            x.reset();
            int[] got = seen(x);
            for (int i = 0; i < want.length; i++) {
                due("5 behind " + turns + " turns, look " + i, got[i], want[i]);
            }
            x.reset();
            SlippedStreams twin = with(program);
            twin.fill(-9, 2);
            x.both(12);
            twin.both(12);
            x.plain(12);
            twin.plain(12);
            dueSame("5 run again behind " + turns + " turns", x, twin);
        }
    }

    /** 6: 'NONE when there is none': before the first, at the last, behind it. */
    private static void streamOfWhereThereIsNone() {
        for (int size : new int[] {0, 1, 2, 23, 24}) {
            SlippedStreams x = new SlippedStreams();
            for (int i = 0; i < size; i++) {
                CHECK.addAll(x, i % 2 == 0 ? store(1, 0, 0) : out(1));
            }
            for (int i : new int[] {MIN, -24, -1, size, size + 1, 25, 64, MAX}) {
                due("6 none at " + i + " of " + size, x.streamOf(i), NONE);
            }
            for (int i = 0; i < size; i++) {
                due("6 at " + i + " of " + size, x.streamOf(i), i % 2);
            }
        }
    }

    /** 7: none, one and all eight; what was cleared makes none. */
    private static void addressRegistersOfNoneAndAll() {
        SlippedStreams x = new SlippedStreams();
        due("7 no program", x.addressRegisters(), 0);
        CHECK.addAll(x, add(1, 2, 3), set(4, 5), less(5, 6, 0), out(7));
        due("7 no LOAD and no STORE", x.addressRegisters(), 0);
        int[] want = {1, 4, 4, 4, 5, 6, 7, 8};
        for (int r = 0; r < 8; r++) {
            CHECK.addAll(x, r % 2 == 0 ? store(0, r, 0) : load(0, r, 0));
            due("7 with " + r, x.addressRegisters(), want[r]);
        }
        x.clear();
        due("7 cleared", x.addressRegisters(), 0);
    }

    /** The address stream does 22 moves a pass; V lets it make 4 passes and 21 moves. */
    private static SlippedStreams addressPasses() {
        List<int[]> program = new ArrayList<>();
        for (int i = 0; i < 21; i++) {
            program.add(set(0, 1 + i));
        }
        program.addAll(List.of(differ(0, 7, 0), load(1, 0, 0), load(1, 7, 0)));
        return with(program);
    }

    /** The value stream does 22 moves a pass; A lets it make 4 passes and 21 moves. */
    private static SlippedStreams valuePasses() {
        List<int[]> program = new ArrayList<>();
        for (int i = 0; i < 21; i++) {
            program.add(set(0, 1 + i));
        }
        program.addAll(List.of(differ(0, 7, 0), out(0)));
        return with(program);
    }

    /** 8: 'makes up to n moves', n of 1 .. 50. */
    private static void addressMakesUpToFifty() {
        for (int n : new int[] {MIN, -50, -1, 0, 51, 52, 100, MAX}) {
            SlippedStreams x = addressPasses();
            due("8 address " + n, x.address(n), NONE);
            due("8 place behind " + n, x.place(0), 0);
            due("8 register behind " + n, x.register(0, false), 0);
        }
        for (int n : new int[] {1, 2, 21, 22, 23, 49, 50}) {
            SlippedStreams x = addressPasses();
            due("8 address " + n, x.address(n), n);
            due("8 place behind " + n, x.place(0), n % 22);
            due("8 the other stays", x.place(1), 21);
            due("8 the plain run stays", x.place(2), 0);
        }
    }

    /** 9: likewise. */
    private static void valueMakesUpToFifty() {
        for (int n : new int[] {MIN, -50, -1, 0, 51, 52, 100, MAX}) {
            SlippedStreams x = valuePasses();
            due("9 value " + n, x.value(n), NONE);
            due("9 place behind " + n, x.place(1), 0);
            due("9 register behind " + n, x.register(0, false), 0);
        }
        for (int n : new int[] {1, 2, 21, 22, 23, 49, 50}) {
            SlippedStreams x = valuePasses();
            due("9 value " + n, x.value(n), n);
            due("9 place behind " + n, x.place(1), n % 22);
            due("9 the other stays", x.place(0), 21);
            due("9 the plain run stays", x.place(2), 0);
            due("9 no loss", x.losses(), 0);
        }
    }

    /** 10: 'NONE when n is not 1 .. 50'; otherwise n turns, of up to two moves each. */
    private static void bothTakesUpToFiftyTurns() {
        List<int[]> program = new ArrayList<>(List.of(set(0, 1)));
        for (int i = 0; i < 20; i++) {
            program.add(out(0));
        }
        program.addAll(List.of(differ(0, 7, 1), load(1, 0, 0), load(1, 7, 0)));
        for (int n : new int[] {MIN, -50, -1, 0, 51, 52, 100, MAX}) {
            SlippedStreams x = with(program);
            due("10 both " + n, x.both(n), NONE);
            due("10 places behind " + n, x.place(0) + x.place(1), 1);
        }
        for (int n : new int[] {1, 2, 49, 50}) {
            SlippedStreams x = with(program);
            x.address(1);
            due("10 both " + n, x.both(n), 2 * n);
            due("10 place of address behind " + n, x.place(0), 1 + n % 21);
            due("10 place of value behind " + n, x.place(1), 1 + n % 21);
            due("10 the plain run stays", x.place(2), 0);
        }
    }

    /** 17: 'does up to n instructions, until it has ended'; 'NONE when n is not 1 .. 50'. */
    private static void plainDoesUpToFifty() {
        for (int n : new int[] {MIN, -50, -1, 0, 51, 52, 100, MAX}) {
            SlippedStreams x = addressPasses();
            due("17 plain " + n, x.plain(n), NONE);
            due("17 place behind " + n, x.place(2), 0);
        }
        for (int n : new int[] {1, 2, 21, 22, 23, 49, 50}) {
            SlippedStreams x = addressPasses();
            due("17 plain " + n, x.plain(n), n);
            due("17 place behind " + n, x.place(2), n % 22);
            due("17 the address stream stays", x.place(0), 0);
            due("17 the value stream stays", x.place(1), 21);
        }
        for (int n : new int[] {2, 3, 4, 50}) {
            SlippedStreams x = with(set(1, 1), set(1, 2), out(1));
            due("17 of three, " + n, x.plain(n), Math.min(n, 3));
            due("17 the rest of three", x.plain(50), n == 2 ? 1 : 0);
            due("17 ended", x.place(2), 3);
        }
        due("17 of none", new SlippedStreams().plain(50), 0);
    }

    /** 8: 'until it waits or has ended': asked for one less, just as many, and one more. */
    private static void addressStopsWhereItWaitsOrHasEnded() {
        for (int n = 3; n <= 5; n++) {
            SlippedStreams waits = with(load(1, 0, 0), load(1, 0, 1), load(1, 0, 2), load(1, 0, 3), load(1, 0, 4));
            due("8 four before it waits, " + n, waits.address(n), Math.min(n, 4));
            due("8 the rest before it waits", waits.address(50), n == 3 ? 1 : 0);
            due("8 waits", waits.address(1), 0);
            due("8 waits at", waits.place(0), 4);
            SlippedStreams ends = with(set(0, 1), set(1, 1), set(0, 2), out(1), set(0, 3), load(0, 0, 0));
            due("8 four before it ends, " + n, ends.address(n), Math.min(n, 4));
            due("8 the rest before it ends", ends.address(50), n == 3 ? 1 : 0);
            due("8 has ended", ends.address(1), 0);
            due("8 ended at", ends.place(0), 6);
        }
        SlippedStreams far = addressPasses();
        due("8 fifty", far.address(50), 50);
        due("8 fifty again", far.address(50), 50);
        due("8 nine and then it waits", far.address(50), 109 - 100);
        due("8 waits for room", far.address(50), 0);
        due("8 V", far.queue(V), 4);
    }

    /** 9: likewise. */
    private static void valueStopsWhereItWaitsOrHasEnded() {
        for (int n = 3; n <= 5; n++) {
            SlippedStreams waits = with(set(1, 1), out(1), set(0, 2), set(1, 3), out(1), load(1, 0, 0), out(1));
            due("9 four before it waits, " + n, waits.value(n), Math.min(n, 4));
            due("9 the rest before it waits", waits.value(50), n == 3 ? 1 : 0);
            due("9 waits", waits.value(1), 0);
            due("9 waits at", waits.place(1), 5);
            SlippedStreams ends = with(set(1, 1), out(1), set(0, 2), set(1, 3), out(1), load(0, 0, 0));
            due("9 four before it ends, " + n, ends.value(n), Math.min(n, 4));
            due("9 the rest before it ends", ends.value(50), n == 3 ? 1 : 0);
            due("9 has ended", ends.value(1), 0);
            due("9 ended at", ends.place(1), 6);
        }
        SlippedStreams far = valuePasses();
        due("9 fifty", far.value(50), 50);
        due("9 fifty again", far.value(50), 50);
        due("9 nine and then it waits", far.value(50), 109 - 100);
        due("9 waits for room", far.value(50), 0);
        due("9 A", far.queue(A), 4);
    }

    /** 10: 'makes a move if it can, then the value stream': when one waits or has ended, the other goes on. */
    private static void bothGoesOnWithOneStream() {
        SlippedStreams x = with(set(1, 1), set(1, 2), set(1, 3), set(0, 1), load(0, 0, 0));
        due("10 address ends behind two turns", x.both(2), 4);
        due("10 value goes on alone", x.both(50), 1);
        due("10 both have ended", x.both(50), 0);
        SlippedStreams y = with(set(0, 1), set(0, 2), set(0, 3), load(0, 0, 0), out(1));
        due("10 value ends behind one turn", y.both(1), 2);
        due("10 address goes on alone", y.both(50), 3);
        SlippedStreams z = with(set(1, 1), set(1, 2), less(1, 1, 0), set(0, 1), load(1, 0, 0));
        due("10 address waits, value moves", z.both(3), 3);
        due("10 and then it follows", z.both(1), 1);
        due("10 value waits for L, address moves", z.both(1), 1);
        due("10 both move in the last turn", z.both(1), 2);
        SlippedStreams first = with(load(1, 0, 0));
        due("10 address first: both in one turn", first.both(1), 2);
        SlippedStreams then = with(less(1, 1, 0));
        due("10 then value: the outcome comes a turn later", then.both(1), 1);
        due("10 a turn later", then.both(1), 1);
        due("10 none", new SlippedStreams().both(50), 0);
    }

    /** 11: 'a stream (0, 1) ..., or the plain run (any other)'. */
    private static void placeOfAnyOther() {
        SlippedStreams x = with(set(0, 1), set(0, 1), set(1, 1), set(1, 1), set(0, 1), out(1), load(2, 0, 0));
        x.address(1);
        x.value(2);
        x.plain(3);
        due("11 address", x.place(0), 1);
        due("11 value", x.place(1), 5);
        for (int any : new int[] {MIN, -2, -1, 2, 3, 256, MAX}) {
            due("11 plain by " + any, x.place(any), 3);
        }
    }

    /** 11 and 12: 'The number of instructions when it has ended', for programs of 0, 1 and 24. */
    private static void placeAndSlipWhereAllHasEnded() {
        for (int size : new int[] {0, 1, 24}) {
            SlippedStreams x = new SlippedStreams();
            for (int i = 0; i < size; i++) {
                CHECK.addAll(x, load(1, 0, i));
            }
            due("11 begin of " + size, x.place(0) + x.place(1) + x.place(2) + x.slip(), 0);
            due("12 moves of " + size, x.both(50), 2 * size);
            due("17 instructions of " + size, x.plain(50), size);
            for (int run = 0; run < 3; run++) {
                due("11 end of " + size + ", run " + run, x.place(run), size);
            }
            due("12 end of " + size, x.slip(), 0);
        }
    }

    /** 12: 'one of a loop each time'; 0 when they are level, below 0 when the value stream is ahead. */
    private static void slipByLoops() {
        SlippedStreams x = addressPasses();
        due("12 value goes over 21", x.slip(), -21);
        x.address(21);
        due("12 level", x.slip(), 0);
        x.address(1);
        due("12 one ahead", x.slip(), 1);
        x.address(50);
        x.address(37);
        due("12 four passes and 21, but for 21", x.slip(), 88);
        x.value(1);
        due("12 value one pass further", x.slip(), 66);
        SlippedStreams y = valuePasses();
        due("12 address goes over 21", y.slip(), 21);
        y.value(50);
        y.value(50);
        y.value(50);
        due("12 value four passes ahead", y.slip(), 21 - 109);
        y.address(1);
        due("12 address one pass further", y.slip(), 43 - 109);
        SlippedStreams self = with(set(0, 1), differ(0, 7, 1), load(1, 0, 0), load(1, 7, 0));
        self.address(1);
        for (int i = 0; i <= 4; i++) {
            due("12 upon itself " + i, self.slip(), i);
            due("12 the next time", self.address(1), i < 4 ? 1 : 0);
        }
    }

    /** Two instructions, the second one a branch to c, and then nine LOADs that both streams have a part of. */
    private static SlippedStreams jump(int[] first, int[] branch) {
        List<int[]> program = new ArrayList<>(List.of(first, branch));
        for (int i = 0; i < 8; i++) {
            program.add(load(3, 0, i));
        }
        program.add(load(3, 7, 0));
        return with(program);
    }

    /**
     * 12: 'has left behind it': the instructions that a stream was at; none of those that a branch
     * jumps over, ahead, to the end or beyond it, and just one for the branch itself.
     */
    private static void slipOfWhatIsJumpedOver() {
        for (int c : new int[] {2, 3, 6, 9, 10, 11, 12, 24}) {
            int loads = Math.max(0, 11 - c);
            SlippedStreams x = jump(set(0, 1), differ(0, 7, c));
            due("12 address jumps to " + c, x.address(2), 2);
            due("12 address is at " + c, x.place(0), Math.min(c, 11));
            due("12 two left behind and one, to " + c, x.slip(), 1);
            due("12 three LOADs behind " + c, x.address(3), Math.min(loads, 3));
            due("12 these too, behind " + c, x.slip(), 1 + Math.min(loads, 3));
            due("12 value jumps to " + c, x.value(1), 1);
            due("12 only these, behind " + c, x.slip(), Math.min(loads, 3));
            x.both(50);
            due("12 all ended, behind " + c, x.slip(), 0);
            SlippedStreams y = jump(set(1, 1), differ(1, 2, c));
            due("12 value jumps first to " + c, y.value(2), 2);
            due("12 value is at " + c, y.place(1), Math.min(c, 11));
            due("12 one left behind and two, to " + c, y.slip(), -1);
            due("12 address jumps behind it to " + c, y.address(1), 1);
            due("12 two and two, to " + c, y.slip(), 0);
            due("12 two LOADs more behind " + c, y.address(2), Math.min(loads, 2));
            due("12 these again, behind " + c, y.slip(), Math.min(loads, 2));
        }
    }

    /** 13: 'NONE for others'. */
    private static void queueOfNoSuchNumber() {
        SlippedStreams x = with(load(1, 0, 0), out(0));
        x.address(50);
        int[] want = {1, 0, 0, 0, 1, 0};
        for (int q = 0; q <= 5; q++) {
            due("13 queue " + q, x.queue(q), want[q]);
        }
        for (int q : new int[] {MIN, -2, -1, 6, 7, 256, MAX}) {
            due("13 no queue " + q, x.queue(q), NONE);
        }
    }

    /** 14: '0 when there is no such register'. */
    private static void registerOfNoSuchNumber() {
        SlippedStreams x = new SlippedStreams();
        for (int r = 0; r < 8; r++) {
            CHECK.addAll(x, set(r, 90 + r));
        }
        CHECK.addAll(x, load(0, 0, 0), load(0, 7, 0), set(0, 90));
        x.both(50);
        x.plain(50);
        for (int plain = 0; plain < 2; plain++) {
            for (int r = 0; r < 8; r++) {
                due("14 register " + r, x.register(r, plain == 1), 90 + r);
            }
            for (int r : new int[] {MIN, -8, -1, 8, 9, 15, 32, MAX}) {
                due("14 no register " + r, x.register(r, plain == 1), 0);
            }
        }
    }

    /** 14: 'Register r of the stream that writes it', also where the other stream has had it from R. */
    private static void registerOfTheStreamThatWritesIt() {
        SlippedStreams x = with(set(0, 5), out(0), set(0, 6), set(1, 7), load(2, 0, 0));
        x.address(3);
        x.value(1);
        due("14 an address register, of the address stream", x.register(0, false), 6);
        due("14 written before by the other", x.output(0, false), 5);
        due("14 a value register that is not yet written", x.register(1, false), 0);
        x.value(1);
        due("14 a value register, of the value stream", x.register(1, false), 7);
        due("14 plain is apart", x.register(0, true) + x.register(1, true), 0);
        x.plain(1);
        due("14 of the plain run", x.register(0, true), 5);
        CHECK.addAll(x, load(2, 1, 0));
        x.address(4);
        due("14 an address register now", x.register(1, false), 7);
    }

    /** 15: 'by the lowest 5 bits of its address'. */
    private static void peekByTheLowestFiveBits() {
        SlippedStreams x = new SlippedStreams();
        x.fill(200, 1);
        int[] addresses = {MIN, MIN + 1, -65, -64, -33, -32, -31, -1, 0, 1, 31, 32, 33, 63, 64, MAX - 1, MAX};
        int[] words = {0, 1, 31, 0, 31, 0, 1, 31, 0, 1, 31, 0, 1, 31, 0, 30, 31};
        for (int i = 0; i < words.length; i++) {
            due("15 word at " + addresses[i], x.peek(addresses[i], false), 200 + words[i]);
            due("15 plain word at " + addresses[i], x.peek(addresses[i], true), 200 + words[i]);
        }
        CHECK.addAll(x, set(0, 9), store(0, 0, 22));
        x.plain(50);
        due("15 of the plain run", x.peek(-1, true), 9);
        due("15 of the streams", x.peek(-1, false), 231);
        x.both(50);
        due("15 of the streams too", x.peek(63, false), 9);
    }

    /** 8 with 16: 'up to n moves, until it waits' and 'had to wait ... in a call': n moves made are no waiting. */
    private static void lossesOnlyWhereItHadToWait() {
        for (int n = 1; n <= 4; n++) {
            SlippedStreams x = with(set(0, 1), set(0, 2), set(0, 3), less(1, 1, 0), load(2, 0, 0));
            due("16 of three moves, " + n, x.address(n), Math.min(n, 3));
            due("16 had to wait, " + n, x.losses(), n > 3 ? 1 : 0);
            SlippedStreams y = with(set(0, 1), set(0, 2), less(1, 0, 0), load(2, 0, 0));
            due("16 of three moves, the last one puts, " + n, y.address(n), Math.min(n, 3));
            due("16 had to wait behind putting, " + n, y.losses(), n > 3 ? 1 : 0);
        }
        SlippedStreams x = with(less(1, 1, 0), less(1, 1, 0), less(1, 1, 0));
        x.value(2);
        due("16 two outcomes, two moves", x.address(2), 2);
        due("16 no waiting yet", x.losses(), 0);
        due("16 none is there", x.address(1), 0);
        due("16 now it had to", x.losses(), 1);
        x.value(1);
        due("16 the last", x.address(50), 1);
        due("16 it has ended, that is no waiting", x.losses(), 1);
    }

    /** 16: 'once at most a call of address()'. */
    private static void lossesOnceACall() {
        SlippedStreams x = with(out(0), less(1, 1, 0), less(1, 1, 0), less(1, 1, 0), load(2, 0, 0));
        due("16 one move, then it waits", x.address(50), 1);
        due("16 once", x.losses(), 1);
        for (int i = 2; i <= 4; i++) {
            due("16 it waits on", x.address(i == 3 ? 1 : 50), 0);
            due("16 once a call", x.losses(), i);
        }
        x.value(2);
        due("16 one outcome, then it waits", x.address(50), 1);
        due("16 five", x.losses(), 5);
        x.value(2);
        due("16 two outcomes, and to the end", x.address(50), 3);
        due("16 five still", x.losses(), 5);
    }

    /** 16: 'once a turn of both()'. */
    private static void lossesOnceATurn() {
        for (int n = 1; n <= 9; n++) {
            SlippedStreams x = with(set(1, 1), set(1, 2), set(1, 3), set(1, 4), less(1, 1, 0), set(0, 1),
                    load(0, 0, 0));
            due("16 turns " + n, x.both(n), n <= 8 ? n : 8);
            due("16 once a turn, " + n, x.losses(), Math.min(n, 5));
            SlippedStreams y = with(set(1, 1), set(1, 2), set(1, 3), less(1, 0, 0), load(2, 0, 0));
            y.both(n);
            due("16 once a turn, the first one puts, " + n, y.losses(), n == 1 ? 0 : Math.min(n - 1, 3));
        }
        SlippedStreams z = with(set(1, 1), less(2, 1, 1));
        due("16 a loop: three turns", z.both(3), 1 + 1 + 2);
        due("16 a loop: two losses", z.losses(), 2);
        due("16 a loop: fifty turns", z.both(50), 100);
        due("16 a loop: no loss more", z.losses(), 2);
    }

    /** 16: 'had to wait for an outcome': not for room, nor for a store, nor at its end. */
    private static void lossesForNothingButOutcomes() {
        dueNoLoss("16 room in L", 4, load(1, 0, 0), load(1, 0, 0), load(1, 0, 0), load(1, 0, 0), load(1, 0, 0),
                less(1, 1, 0));
        dueNoLoss("16 room in V", 4, less(0, 0, 0), less(0, 0, 0), less(0, 0, 0), less(0, 0, 0), less(0, 0, 0),
                less(1, 1, 0), load(1, 0, 0));
        dueNoLoss("16 room in R", 6, out(0), out(0), out(0), out(0), out(0), out(0), out(0), less(1, 1, 0),
                load(1, 0, 0));
        dueNoLoss("16 room in R at a branch", 6, out(0), out(0), out(0), out(0), out(0), out(0), less(0, 1, 0),
                load(1, 0, 0));
        dueNoLoss("16 room in the list", 6, store(1, 0, 0), store(1, 0, 0), store(1, 0, 0), store(1, 0, 0),
                store(1, 0, 0), store(1, 0, 0), store(1, 0, 0), less(1, 1, 0));
        dueNoLoss("16 a store of the same word", 1, store(1, 0, 0), load(1, 0, 0), less(1, 1, 0));
        dueNoLoss("16 a store of the same word, for an address", 1, store(1, 0, 0), load(0, 0, 0), less(1, 1, 0));
        dueNoLoss("16 its end", 1, load(1, 0, 0));
        dueNoLoss("16 its end at once", 0, out(1));
        SlippedStreams value = with(less(0, 0, 0), load(1, 0, 0));
        due("16 the value stream waits", value.value(50), 0);
        due("16 which is no loss", value.losses(), 0);
        SlippedStreams ended = with(less(1, 1, 0));
        due("16 the value stream ends", ended.value(50), 1);
        due("16 it has ended", ended.value(50), 0);
        due("16 which is none either", ended.losses(), 0);
    }

    private static void dueNoLoss(String what, int moves, int[]... instructions) {
        SlippedStreams x = with(instructions);
        due(what, x.address(50), moves);
        due(what + ", again", x.address(50), 0);
        due(what + ": no loss", x.losses(), 0);
        x.both(1);
        due(what + ": no loss in a turn", x.losses(), 0);
    }

    /** 16: 'since the runs began'. */
    private static void lossesSinceTheRunsBegan() {
        SlippedStreams x = with(less(1, 1, 0));
        for (int way = 0; way < 4; way++) {
            x.address(1);
            x.address(1);
            due("16 two", x.losses(), 2);
            due("16 refused", x.add(9, 0, 0, 0) + x.address(0) + x.both(51), 3 * NONE);
            due("16 two still", x.losses(), 2);
            if (way == 0) {
                x.reset();
            } else if (way == 1) {
                x.fill(1, 1);
            } else if (way == 2) {
                x.add(Check.OUT, 1, 0, 0);
            } else {
                x.clear();
            }
            due("16 begun anew by " + way, x.losses(), 0);
        }
        x.both(50);
        due("16 no program", x.losses(), 0);
    }

    /** Value 1 more each time; ten things a pass, and one move of the value stream each turn of both(). */
    private static SlippedStreams writer() {
        List<int[]> program = new ArrayList<>(List.of(set(2, 1)));
        for (int i = 0; i < 10; i++) {
            program.add(add(1, 1, 2));
            program.add(out(1));
        }
        program.add(differ(1, 3, 1));
        return with(program);
    }

    private static void repeat(SlippedStreams x, int n, boolean plain) {
        for (int left = n; left > 0; left -= 50) {
            int now = Math.min(50, left);
            if (plain) {
                x.plain(now);
            } else {
                x.both(now);
            }
        }
    }

    /** 18 and 19: 'all counted; the first 64 are kept', '0 when it is not kept'. */
    private static void outputsAroundSixtyFour() {
        for (int count : new int[] {0, 1, 2, 63, 64, 65, 66, 130}) {
            for (int plain = 0; plain < 2; plain++) {
                boolean p = plain == 1;
                SlippedStreams x = writer();
                repeat(x, 1 + 2 * count + Math.max(0, count - 1) / 10, p);
                String what = count + " written, plain " + p;
                due("18 " + what, x.outputs(p), count);
                due("18 the other run wrote none: " + what, x.outputs(!p), 0);
                for (int i = 0; i < 70; i++) {
                    due("19 " + what + ": thing " + i, x.output(i, p), i < count && i < 64 ? i + 1 : 0);
                }
                for (int i : new int[] {MIN, -64, -2, -1, 127, 128, 129, 130, 256, MAX}) {
                    due("19 " + what + ": no thing " + i, x.output(i, p), 0);
                }
                due("19 the other run keeps none: " + what, x.output(0, !p), 0);
            }
        }
    }

    /** 18: 'by the value stream or by the plain run', and anew when the runs begin anew. */
    private static void outputsOfEachRun() {
        SlippedStreams x = writer();
        repeat(x, 70, true);
        repeat(x, 5, false);
        due("18 plain", x.outputs(true), 33);
        due("18 the value stream", x.outputs(false), 2);
        due("19 plain", x.output(32, true), 33);
        due("19 the value stream", x.output(2, false), 0);
        x.reset();
        due("18 none", x.outputs(true) + x.outputs(false), 0);
        for (int i = 0; i < 33; i++) {
            due("19 none is kept at " + i, x.output(i, true), 0);
            due("19 none of the value stream at " + i, x.output(i, false), 0);
        }
    }
}
