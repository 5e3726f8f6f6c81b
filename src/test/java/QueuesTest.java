/** Promise 13, and the parts that put into, take from and wait for the queues and the list. */
public final class QueuesTest {
    private static final int NONE = SlippedStreams.NONE;
    private static final Check CHECK = new Check();

    public static void main(String[] args) {
        numbersOfQueues();
        loadsHaveFourPlaces();
        storedValuesHaveFourPlaces();
        outcomesForValuesHaveFourPlaces();
        outcomesForAddressesHaveFourPlaces();
        registersHaveSixPlaces();
        registersWaitForRoomForBoth();
        registersComeInOrder();
        aRegisterIsPassedOnce();
        branchPassesItsAddressRegister();
        branchWaitsForRegisterAndForRoom();
        listHasSixStores();
        listIsWrittenInOrder();
        listTakesFromStoredValues();
        valueGoesToTheFirstThatMissesIt();
        loadsWaitForTheSameAddress();
        listIsUsedAgainAndAgain();
        allAreEmptyAfterReset();
        CHECK.end();
    }

    private static void due(String what, long got, long want) {
        CHECK.due(what, got, want);
    }

    private static void numbersOfQueues() {
        SlippedStreams x = new SlippedStreams();
        due("13 queue 6", x.queue(6), NONE);
        due("13 queue -1", x.queue(-1), NONE);
        due("13 queue max", x.queue(Integer.MAX_VALUE), NONE);
        due("13 queue min", x.queue(Integer.MIN_VALUE), NONE);
        due("13 queue 5", x.queue(5), 0);
    }

    private static void loadsHaveFourPlaces() {
        SlippedStreams x = new SlippedStreams();
        x.fill(10, 1);
        for (int i = 0; i < 6; i++) {
            CHECK.addAll(x, Check.in(Check.LOAD, 1, 0, i));
        }
        due("L value waits", x.value(50), 0);
        due("L address", x.address(50), 4);
        due("L is full", x.queue(Check.L), 4);
        due("L place", x.place(0), 4);
        due("L waits", x.address(1), 0);
        due("L taken", x.value(1), 1);
        due("L first", x.register(1, false), 10);
        due("L size", x.queue(Check.L), 3);
        due("L goes on", x.address(50), 1);
        due("L taken again", x.value(2), 2);
        due("L third", x.register(1, false), 12);
        due("L goes on again", x.address(50), 1);
        due("L all", x.value(50), 3);
        due("L last", x.register(1, false), 15);
        due("L empty", x.queue(Check.L), 0);
        due("L no losses", x.losses(), 0);
    }

    private static void storedValuesHaveFourPlaces() {
        SlippedStreams x = new SlippedStreams();
        for (int i = 0; i < 5; i++) {
            CHECK.addAll(x, Check.in(Check.SET, 1, 0, 11 + i), Check.in(Check.STORE, 1, 0, i));
        }
        due("S value", x.value(50), 9);
        due("S is full", x.queue(Check.S), 4);
        due("S place", x.place(1), 9);
        due("S not written", x.peek(0, false), 0);
        due("S address", x.address(1), 1);
        due("S taken", x.queue(Check.S), 3);
        due("S list", x.queue(Check.LIST), 0);
        due("S written", x.peek(0, false), 11);
        due("S value goes on", x.value(50), 1);
        due("S address goes on", x.address(50), 4);
        for (int i = 0; i < 5; i++) {
            due("S word " + i, x.peek(i, false), 11 + i);
        }
    }

    private static void outcomesForValuesHaveFourPlaces() {
        SlippedStreams x = new SlippedStreams();
        for (int i = 0; i < 5; i++) {
            CHECK.addAll(x, Check.in(Check.LESS, 0, 0, 24));
        }
        CHECK.addAll(x, Check.in(Check.LOAD, 1, 0, 0));
        due("V value waits", x.value(50), 0);
        due("V address", x.address(50), 4);
        due("V is full", x.queue(Check.V), 4);
        due("V place", x.place(0), 4);
        due("V value", x.value(1), 1);
        due("V address goes on", x.address(50), 2);
        due("V value goes on", x.value(50), 5);
        due("V empty", x.queue(Check.V), 0);
        due("V ended", x.place(1), 6);
        due("V is not waited for by the address stream", x.losses(), 0);
    }

    private static void outcomesForAddressesHaveFourPlaces() {
        SlippedStreams x = new SlippedStreams();
        for (int i = 0; i < 5; i++) {
            CHECK.addAll(x, Check.in(Check.DIFFER, 1, 1, 24));
        }
        due("A value", x.value(50), 4);
        due("A is full", x.queue(Check.A), 4);
        due("A place", x.place(1), 4);
        due("A address", x.address(2), 2);
        due("A taken", x.queue(Check.A), 2);
        due("A no losses", x.losses(), 0);
        due("A value goes on", x.value(50), 1);
        due("A address goes on", x.address(50), 3);
        due("A ended", x.place(0), 5);
        due("A no losses at the end", x.losses(), 0);
    }

    private static void registersHaveSixPlaces() {
        SlippedStreams x = new SlippedStreams();
        for (int i = 0; i < 7; i++) {
            CHECK.addAll(x, Check.in(Check.OUT, 0, 0, 0));
        }
        CHECK.addAll(x, Check.in(Check.LOAD, 1, 0, 0));
        due("R value waits", x.value(50), 0);
        due("R address", x.address(50), 6);
        due("R is full", x.queue(Check.R), 6);
        due("R place", x.place(0), 6);
        due("R value", x.value(1), 1);
        due("R address goes on", x.address(50), 2);
        due("R value goes on", x.value(50), 7);
        due("R no losses", x.losses(), 0);
    }

    private static void registersWaitForRoomForBoth() {
        SlippedStreams x = new SlippedStreams();
        for (int i = 0; i < 5; i++) {
            CHECK.addAll(x, Check.in(Check.OUT, 0, 0, 0));
        }
        CHECK.addAll(x, Check.in(Check.ADD, 2, 0, 1), Check.in(Check.LOAD, 4, 0, 0),
                Check.in(Check.LOAD, 4, 1, 0));
        due("R2 address", x.address(50), 5);
        due("R2 size", x.queue(Check.R), 5);
        due("R2 place", x.place(0), 5);
        due("R2 value", x.value(1), 1);
        due("R2 address goes on", x.address(1), 1);
        due("R2 is full", x.queue(Check.R), 6);
        due("R2 value does all", x.value(50), 5);
        due("R2 empty", x.queue(Check.R), 0);
    }

    private static void registersComeInOrder() {
        SlippedStreams x = CHECK.with(
                Check.in(Check.SET, 0, 0, 9),
                Check.in(Check.SET, 1, 0, 4),
                Check.in(Check.SET, 5, 0, 100),
                Check.in(Check.SUB, 2, 0, 1),
                Check.in(Check.OUT, 2, 0, 0),
                Check.in(Check.SUB, 2, 1, 0),
                Check.in(Check.OUT, 2, 0, 0),
                Check.in(Check.SUB, 2, 5, 0),
                Check.in(Check.OUT, 2, 0, 0),
                Check.in(Check.SUB, 2, 1, 5),
                Check.in(Check.OUT, 2, 0, 0),
                Check.in(Check.SET, 0, 0, 77),
                Check.in(Check.LOAD, 3, 0, 0),
                Check.in(Check.LOAD, 3, 1, 0));
        due("order address", x.address(50), 9);
        due("order R", x.queue(Check.R), 6);
        due("order value", x.value(50), 11);
        int[] want = {5, -5, 91, -96};
        for (int i = 0; i < want.length; i++) {
            due("order output " + i, x.output(i, false), want[i]);
        }
        due("order r0 of the stream that writes it", x.register(0, false), 77);
    }

    private static void aRegisterIsPassedOnce() {
        SlippedStreams x = CHECK.with(
                Check.in(Check.SET, 0, 0, 9),
                Check.in(Check.MUL, 2, 0, 0),
                Check.in(Check.OUT, 2, 0, 0),
                Check.in(Check.LOAD, 3, 0, 0));
        due("once address", x.address(2), 2);
        due("once R", x.queue(Check.R), 1);
        due("once value", x.value(50), 2);
        due("once output", x.output(0, false), 81);
        due("once empty", x.queue(Check.R), 0);
    }

    /** Both orders of an address and a value register, both outcomes. */
    private static void branchPassesItsAddressRegister() {
        for (int turned = 0; turned < 2; turned++) {
            int a = turned == 0 ? 0 : 1;
            SlippedStreams x = CHECK.with(
                    Check.in(Check.SET, 0, 0, 5),
                    Check.in(Check.SET, 1, 0, 6),
                    Check.in(Check.LESS, a, 1 - a, 4),
                    Check.in(Check.OUT, 1, 0, 0),
                    Check.in(Check.LOAD, 2, 0, 0));
            due("branch address", x.address(50), 2);
            due("branch R", x.queue(Check.R), 1);
            due("branch place", x.place(0), 2);
            due("branch losses", x.losses(), 1);
            due("branch slip", x.slip(), 1);
            due("branch value", x.value(2), 2);
            due("branch A", x.queue(Check.A), 1);
            due("branch goes", x.place(1), turned == 0 ? 4 : 3);
            due("branch slip again", x.slip(), -1);
            due("branch address follows", x.address(1), 1);
            due("branch followed", x.place(0), 4);
            due("branch slip at last", x.slip(), turned == 0 ? 0 : 1);
            due("branch losses at last", x.losses(), 1);
        }
    }

    private static void branchWaitsForRegisterAndForRoom() {
        SlippedStreams x = CHECK.with(
                Check.in(Check.OUT, 1, 0, 0),
                Check.in(Check.DIFFER, 0, 1, 0),
                Check.in(Check.LESS, 1, 0, 0),
                Check.in(Check.DIFFER, 1, 2, 0),
                Check.in(Check.LESS, 2, 1, 0),
                Check.in(Check.LESS, 1, 2, 0),
                Check.in(Check.LESS, 1, 2, 0),
                Check.in(Check.LOAD, 3, 0, 0));
        due("wait value for R", x.value(50), 1);
        due("wait place", x.place(1), 1);
        due("wait no outcome", x.queue(Check.A), 0);
        due("wait address puts", x.address(1), 1);
        due("wait put is no loss", x.losses(), 0);
        due("wait value branches", x.value(50), 1);
        due("wait address takes, puts, takes not", x.address(50), 2);
        due("wait loss", x.losses(), 1);
        due("wait value fills A", x.value(50), 4);
        due("wait A is full", x.queue(Check.A), 4);
        due("wait value at the last", x.place(1), 6);
        due("wait address empties A", x.address(50), 4);
        due("wait second loss", x.losses(), 2);
        due("wait value at last", x.value(50), 1);
        due("wait address at last", x.address(50), 2);
        due("wait load", x.value(50), 1);
        due("wait losses", x.losses(), 2);
    }

    private static void listHasSixStores() {
        SlippedStreams x = new SlippedStreams();
        x.fill(100, 1);
        for (int i = 0; i < 8; i++) {
            CHECK.addAll(x, Check.in(Check.STORE, i == 6 ? 0 : 1, 0, i));
        }
        due("list address", x.address(50), 6);
        due("list is full", x.queue(Check.LIST), 6);
        due("list place", x.place(0), 6);
        due("list not written", x.peek(0, false), 100);
        due("list value", x.value(1), 1);
        due("list S", x.queue(Check.S), 0);
        due("list size", x.queue(Check.LIST), 5);
        due("list written", x.peek(0, false), 0);
        due("list address goes on", x.address(50), 1);
        due("list full again", x.queue(Check.LIST), 6);
        due("list six behind five", x.peek(6, false), 106);
        due("list value goes on", x.value(5), 5);
        due("list empty", x.queue(Check.LIST), 0);
        due("list six", x.peek(6, false), 0);
        due("list value into S", x.value(50), 1);
        due("list S has one", x.queue(Check.S), 1);
        due("list last", x.address(50), 1);
        due("list word 7", x.peek(7, false), 0);
        due("list ended", x.slip(), 0);
    }

    private static void listIsWrittenInOrder() {
        SlippedStreams x = CHECK.with(
                Check.in(Check.SET, 0, 0, 3),
                Check.in(Check.STORE, 1, 0, 0),
                Check.in(Check.STORE, 0, 0, 1),
                Check.in(Check.STORE, 0, 0, 0),
                Check.in(Check.STORE, 1, 0, 2));
        x.fill(100, 1);
        due("in order address", x.address(50), 5);
        due("in order list", x.queue(Check.LIST), 4);
        due("in order 4", x.peek(4, false), 104);
        due("in order value", x.value(1), 1);
        due("in order left", x.queue(Check.LIST), 1);
        due("in order 3, the later one", x.peek(3, false), 3);
        due("in order 4 written", x.peek(4, false), 3);
        due("in order 5", x.peek(5, false), 105);
        due("in order last value", x.value(50), 1);
        due("in order 5 written", x.peek(5, false), 0);
    }

    private static void listTakesFromStoredValues() {
        SlippedStreams x = CHECK.with(
                Check.in(Check.STORE, 0, 0, 1),
                Check.in(Check.SET, 1, 0, 8),
                Check.in(Check.STORE, 1, 0, 2),
                Check.in(Check.SET, 1, 0, 9),
                Check.in(Check.STORE, 1, 0, 3));
        x.fill(100, 1);
        due("stored value", x.value(50), 4);
        due("stored S", x.queue(Check.S), 2);
        due("stored address register", x.address(1), 1);
        due("stored S is left alone", x.queue(Check.S), 2);
        due("stored word 1", x.peek(1, false), 0);
        due("stored next", x.address(1), 1);
        due("stored S taken", x.queue(Check.S), 1);
        due("stored word 2", x.peek(2, false), 8);
        due("stored last", x.address(1), 1);
        due("stored word 3", x.peek(3, false), 9);
    }

    private static void valueGoesToTheFirstThatMissesIt() {
        SlippedStreams x = CHECK.with(
                Check.in(Check.STORE, 1, 0, 1),
                Check.in(Check.STORE, 0, 0, 2),
                Check.in(Check.SET, 1, 0, 8),
                Check.in(Check.STORE, 1, 0, 3),
                Check.in(Check.SET, 1, 0, 9),
                Check.in(Check.STORE, 1, 0, 4));
        x.fill(100, 1);
        due("first address", x.address(50), 4);
        due("first value", x.value(3), 3);
        due("first word 1", x.peek(1, false), 0);
        due("first word 2", x.peek(2, false), 0);
        due("first word 3", x.peek(3, false), 8);
        due("first word 4", x.peek(4, false), 104);
        due("first list", x.queue(Check.LIST), 1);
        due("first value on", x.value(50), 2);
        due("first word 4 at last", x.peek(4, false), 9);
    }

    /** For a LOAD of either stream; addresses count by their lowest five bits. */
    private static void loadsWaitForTheSameAddress() {
        for (int loaded = 1; loaded <= 2; loaded++) {
            SlippedStreams x = CHECK.with(
                    Check.in(Check.SET, 0, 0, -2),
                    Check.in(Check.SET, 1, 0, 50),
                    Check.in(Check.STORE, 1, 0, 35),
                    Check.in(Check.STORE, 0, 0, 4),
                    Check.in(Check.LOAD, loaded, 0, 0),
                    Check.in(Check.LOAD, loaded, 0, 4 - 64),
                    Check.in(Check.OUT, loaded, 0, 0));
            if (loaded == 2) {
                CHECK.addAll(x, Check.in(Check.LOAD, 3, 2, 0));
            }
            x.fill(100, 1);
            due("same address", x.address(50), 4);
            due("same list", x.queue(Check.LIST), 2);
            due("same place", x.place(0), 5);
            due("same no losses", x.losses(), 0);
            due("same value", x.value(2), 2);
            due("same list is empty", x.queue(Check.LIST), 0);
            due("same word 1", x.peek(1, false), 50);
            due("same address goes on", x.address(50), loaded == 1 ? 1 : 3);
            if (loaded == 2) {
                due("same loaded", x.register(2, false), -2);
            }
            x.value(50);
            due("same output", x.output(0, false), -2);
        }
    }

    /** More stores go through the list than it has places, each one missing its value at first. */
    private static void listIsUsedAgainAndAgain() {
        SlippedStreams x = new SlippedStreams();
        for (int i = 0; i < 10; i++) {
            CHECK.addAll(x, Check.in(Check.SET, 1, 0, 20 + i), Check.in(Check.STORE, 1, 0, i));
        }
        for (int i = 0; i < 10; i += 2) {
            due("again address " + i, x.address(2), 2);
            due("again missing " + i, x.queue(Check.LIST), 2);
            due("again not written " + i, x.peek(i, false), 0);
            due("again value " + i, x.value(2), 2);
            due("again written " + i, x.peek(i, false), 20 + i);
            due("again one missing " + i, x.queue(Check.LIST), 1);
            due("again next value " + i, x.value(2), 2);
            due("again next written " + i, x.peek(i + 1, false), 21 + i);
        }
    }

    private static void allAreEmptyAfterReset() {
        SlippedStreams x = CHECK.with(
                Check.in(Check.LESS, 1, 1, 0),
                Check.in(Check.STORE, 1, 0, 0),
                Check.in(Check.STORE, 1, 0, 1),
                Check.in(Check.LESS, 0, 0, 0),
                Check.in(Check.LOAD, 2, 0, 5),
                Check.in(Check.OUT, 0, 0, 0),
                Check.in(Check.OUT, 2, 0, 0));
        due("reset value", x.value(50), 3);
        due("reset A", x.queue(Check.A), 1);
        due("reset S", x.queue(Check.S), 2);
        x.reset();
        due("reset A is empty", x.queue(Check.A), 0);
        due("reset S is empty", x.queue(Check.S), 0);
        due("reset value for the branch", x.value(1), 1);
        due("reset address", x.address(50), 6);
        due("reset list", x.queue(Check.LIST), 2);
        due("reset L", x.queue(Check.L), 1);
        due("reset V", x.queue(Check.V), 1);
        due("reset R", x.queue(Check.R), 1);
        x.reset();
        for (int q = 0; q <= 5; q++) {
            due("reset queue " + q, x.queue(q), 0);
        }
    }
}
