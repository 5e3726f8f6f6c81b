/** Promises 8 to 12 and 16: address, value, both, place, slip, losses. */
public final class MovesTest {
    private static final int NONE = SlippedStreams.NONE;
    private static final Check CHECK = new Check();

    public static void main(String[] args) {
        countsThatAreRefused();
        countsThatAreTaken();
        nothingIsGoneOver();
        bothTakesTurns();
        addressGoesFirstInBoth();
        placeBehindAFarBranch();
        placeOfThePlainRun();
        slipCountsALoopEachTime();
        branchesOfTheAddressStream();
        lossesOfAddress();
        lossesOfBoth();
        lossesOnlyForOutcomes();
        CHECK.end();
    }

    private static void due(String what, long got, long want) {
        CHECK.due(what, got, want);
    }

    private static SlippedStreams endless() {
        return CHECK.with(
                Check.in(Check.SET, 0, 0, 1),
                Check.in(Check.SET, 1, 0, 1),
                Check.in(Check.DIFFER, 0, 7, 0),
                Check.in(Check.LOAD, 2, 0, 0),
                Check.in(Check.LOAD, 2, 7, 0));
    }

    private static void countsThatAreRefused() {
        SlippedStreams x = endless();
        for (int n : new int[] {0, -1, 51, Integer.MIN_VALUE, Integer.MAX_VALUE}) {
            due("8 address " + n, x.address(n), NONE);
            due("9 value " + n, x.value(n), NONE);
            due("10 both " + n, x.both(n), NONE);
            due("17 plain " + n, x.plain(n), NONE);
        }
        due("8 changes nothing", x.place(0), 0);
        due("9 changes nothing", x.place(1), 1);
        due("17 changes nothing", x.place(2), 0);
        due("16 changes nothing", x.losses(), 0);
    }

    private static void countsThatAreTaken() {
        SlippedStreams x = endless();
        due("8 one", x.address(1), 1);
        due("8 place", x.place(0), 2);
        due("8 until V is full", x.address(50), 8);
        due("8 waits", x.address(50), 0);
        due("9 two", x.value(2), 2);
        due("9 place", x.place(1), 1);
        due("9 until V is empty", x.value(50), 7);
        due("9 waits", x.value(1), 0);
        due("10 one", x.both(1), 2);
        due("10 fifty", x.both(50), 100);
        due("17 fifty", x.plain(50), 50);
        due("17 one", x.plain(1), 1);
    }

    /** Parts that are nothing lie at the begin, between, and at the end for both streams. */
    private static void nothingIsGoneOver() {
        SlippedStreams x = CHECK.with(
                Check.in(Check.SET, 1, 0, 1),
                Check.in(Check.ADD, 1, 1, 1),
                Check.in(Check.SET, 0, 0, 1),
                Check.in(Check.MUL, 0, 0, 0),
                Check.in(Check.LOAD, 2, 0, 0),
                Check.in(Check.LOAD, 0, 0, 0),
                Check.in(Check.STORE, 0, 0, 0),
                Check.in(Check.OUT, 1, 0, 0),
                Check.in(Check.SUB, 1, 2, 2));
        due("11 address", x.place(0), 2);
        due("11 value", x.place(1), 0);
        due("12 begin", x.slip(), 2);
        due("9 values before", x.value(2), 2);
        due("11 value at the load", x.place(1), 4);
        due("12 behind", x.slip(), -2);
        due("8 addresses", x.address(3), 3);
        due("11 address between", x.place(0), 5);
        due("12 ahead", x.slip(), 1);
        due("8 the last of addresses", x.address(50), 2);
        due("11 address ended", x.place(0), 9);
        due("12 at its end", x.slip(), 5);
        due("9 values behind", x.value(50), 3);
        due("11 value ended", x.place(1), 9);
        due("12 both ended", x.slip(), 0);
        due("8 ended", x.address(50), 0);
        due("9 ended", x.value(50), 0);
        due("10 ended", x.both(50), 0);
    }

    private static void bothTakesTurns() {
        SlippedStreams x = CHECK.with(
                Check.in(Check.SET, 0, 0, 5),
                Check.in(Check.SET, 0, 0, 6),
                Check.in(Check.OUT, 0, 0, 0),
                Check.in(Check.LOAD, 1, 0, 0));
        due("10 value waits", x.both(2), 2);
        due("10 both move", x.both(1), 2);
        due("10 output", x.output(0, false), 6);
        due("10 the last", x.both(50), 2);
    }

    private static void addressGoesFirstInBoth() {
        SlippedStreams x = CHECK.with(Check.in(Check.LOAD, 1, 0, 3));
        x.fill(4, 4);
        due("10 loaded in one turn", x.both(1), 2);
        due("10 register", x.register(1, false), 16);
        SlippedStreams y = CHECK.with(Check.in(Check.LESS, 1, 1, 0));
        due("10 outcome not yet there", y.both(1), 1);
        due("10 value has ended", y.place(1), 1);
        due("10 address follows", y.both(1), 1);
        due("10 address has ended", y.place(0), 1);
    }

    private static void placeBehindAFarBranch() {
        SlippedStreams x = CHECK.with(
                Check.in(Check.SET, 1, 0, 1),
                Check.in(Check.DIFFER, 1, 2, 24),
                Check.in(Check.OUT, 1, 0, 0));
        x.both(50);
        x.plain(50);
        due("11 address ended far off", x.place(0), 3);
        due("11 value ended far off", x.place(1), 3);
        due("11 plain ended far off", x.place(2), 3);
        due("12 far off", x.slip(), 0);
        due("18 nothing written", x.outputs(false) + x.outputs(true), 0);
        due("17 ended", x.plain(50), 0);
    }

    private static void placeOfThePlainRun() {
        SlippedStreams x = endless();
        due("11 plain goes over nothing", x.plain(1), 1);
        for (int any : new int[] {2, -1, Integer.MAX_VALUE, Integer.MIN_VALUE}) {
            due("11 place " + any, x.place(any), 1);
        }
    }

    private static void slipCountsALoopEachTime() {
        SlippedStreams x = endless();
        due("12 begin", x.slip(), -1);
        due("8 four rounds", x.address(8), 8);
        due("12 four rounds", x.slip(), 12 - 1);
        due("8 then waits for V", x.address(50), 1);
        due("12 waits", x.slip(), 14 - 1);
        due("9 one round", x.value(2), 2);
        due("12 one round", x.slip(), 14 - 4);
        SlippedStreams y = CHECK.with(
                Check.in(Check.SET, 0, 0, 1),
                Check.in(Check.DIFFER, 0, 1, 1),
                Check.in(Check.LOAD, 2, 0, 0),
                Check.in(Check.LOAD, 2, 1, 0));
        due("8 upon itself", y.address(50), 5);
        due("12 upon itself", y.slip(), 4);
        due("11 upon itself", y.place(0), 1);
    }

    /** A loop of addresses alone; the value stream goes it by outcomes. */
    private static void branchesOfTheAddressStream() {
        SlippedStreams x = CHECK.with(
                Check.in(Check.SET, 1, 0, 3),
                Check.in(Check.SET, 2, 0, 1),
                Check.in(Check.ADD, 0, 0, 2),
                Check.in(Check.OUT, 7, 0, 0),
                Check.in(Check.LESS, 0, 1, 2),
                Check.in(Check.LOAD, 3, 0, 0),
                Check.in(Check.LOAD, 3, 1, 0));
        due("7 three", x.addressRegisters(), 3);
        due("8 whole loop", x.address(50), 2 + 3 * 2 + 2);
        due("13 three outcomes", x.queue(Check.V), 3);
        due("9 goes by them", x.value(50), 3 * 2 + 2);
        due("18 three outputs", x.outputs(false), 3);
        due("11 ended", x.place(1), 7);
    }

    private static SlippedStreams valueBranches() {
        return CHECK.with(
                Check.in(Check.SET, 0, 0, 1),
                Check.in(Check.LESS, 1, 1, 0),
                Check.in(Check.LESS, 0, 1, 0),
                Check.in(Check.LOAD, 2, 0, 0));
    }

    private static void lossesOfAddress() {
        SlippedStreams x = valueBranches();
        due("16 one move is one", x.address(1), 1);
        due("16 it did not have to wait", x.losses(), 0);
        due("16 waits", x.address(1), 0);
        due("16 one", x.losses(), 1);
        due("16 waits long", x.address(50), 0);
        due("16 once a call", x.losses(), 2);
        due("16 value", x.value(50), 1);
        due("16 the value stream's waiting is none", x.losses(), 2);
        due("16 takes, puts, waits", x.address(50), 2);
        due("16 three", x.losses(), 3);
        due("16 refused", x.address(51), NONE);
        due("16 still three", x.losses(), 3);
        x.reset();
        due("16 reset", x.losses(), 0);
    }

    private static void lossesOfBoth() {
        SlippedStreams x = valueBranches();
        due("16 both: SET and LESS", x.both(1), 2);
        due("16 both: no loss", x.losses(), 0);
        due("16 both: take", x.both(1), 1);
        due("16 both: put and LESS, take and wait", x.both(2), 3);
        due("16 both: no loss at all", x.losses(), 0);
        SlippedStreams y = CHECK.with(
                Check.in(Check.SET, 1, 0, 1),
                Check.in(Check.SET, 2, 0, 2),
                Check.in(Check.LESS, 1, 2, 1));
        due("16 both: three turns", y.both(3), 3);
        due("16 both: once a turn", y.losses(), 3);
        due("16 both: a round", y.both(2), 4 - 1);
        due("16 both: and a loss", y.losses(), 4);
    }

    private static void lossesOnlyForOutcomes() {
        SlippedStreams x = CHECK.with(
                Check.in(Check.STORE, 1, 0, 0),
                Check.in(Check.LOAD, 2, 0, 0),
                Check.in(Check.LESS, 2, 1, 0));
        due("16 waits for the list", x.address(50), 1);
        due("16 waits for the list again", x.address(50), 0);
        due("16 none", x.losses(), 0);
        SlippedStreams y = new SlippedStreams();
        for (int i = 0; i < 6; i++) {
            CHECK.addAll(y, Check.in(Check.OUT, 0, 0, 0));
        }
        CHECK.addAll(y, Check.in(Check.LESS, 0, 1, 0), Check.in(Check.LOAD, 2, 0, 0));
        due("16 waits for room at the branch", y.address(50), 6);
        due("16 at the branch", y.place(0), 6);
        due("16 none for room", y.losses(), 0);
        due("16 room", y.value(1), 1);
        due("16 puts, then waits", y.address(50), 1);
        due("16 one for the outcome", y.losses(), 1);
    }
}
