import java.util.ArrayList;
import java.util.List;

/** The edges of the queues and of the list: empty, one, one less than full, full, and round their ends. */
public final class QueueEdgesTest extends Edges {
    public static void main(String[] args) {
        loadsHaveFourPlaces();
        storedValuesHaveFourPlaces();
        outcomesForValuesHaveFourPlaces();
        outcomesForAddressesHaveFourPlaces();
        registersHaveSixPlaces();
        twoRegistersNeedRoomForBoth();
        aRegisterOfABranchNeedsRoom();
        onlyTheRegistersThatAreRead();
        loadsComeInOrderRoundTheEnd();
        storedValuesComeInOrderRoundTheEnd();
        outcomesForValuesComeInOrderRoundTheEnd();
        outcomesForAddressesComeInOrderRoundTheEnd();
        registersComeInOrderRoundTheEnd();
        theListHasSixPlaces();
        aFullListWaitsForKnownValuesToo();
        aFullListIsNotInTheWayOfOthers();
        theFirstStoreLeavesAndAgain();
        aKnownStoreBehindAMissingOneStays();
        sixStoresLeaveInOneMove();
        aStoreWithItsValueLeavesAtOnce();
        loadsWaitForAnyStoreOfTheList();
        theLaterStoreOfOneWordWins();
        theListRoundItsEnd();
        valuesGoToTheListBeforeTheyGoIntoS();
        onlyStoresOfValuesTakeFromS();
        CHECK.end();
    }

    private static SlippedStreams repeated(int n, int[] instruction, int[]... behind) {
        SlippedStreams x = new SlippedStreams();
        for (int i = 0; i < n; i++) {
            CHECK.addAll(x, instruction);
        }
        CHECK.addAll(x, behind);
        return x;
    }

    /**
     * One stream puts one thing a move into an empty queue, the other takes one a move: 'waits when
     * there is not room for all that it puts' and 'waits when there is not all of it'.
     */
    private static void duePlaces(String what, SlippedStreams x, int q, int places, Call put, Call take) {
        due(what + " is empty", x.queue(q), 0);
        due(what + " has nothing to take", take.on(x), 0);
        for (int i = 1; i <= places; i++) {
            due(what + " has room for " + i, put.on(x), 1);
            due(what + " has " + i, x.queue(q), i);
        }
        int placePutting = x.place(0);
        int placeTaking = x.place(1);
        due(what + " is full", put.on(x), 0);
        due(what + " is full again", put.on(x), 0);
        due(what + " has as many", x.queue(q), places);
        due(what + ": the address stream stays", x.place(0), placePutting);
        due(what + ": the value stream stays", x.place(1), placeTaking);
        due(what + " has one to take", take.on(x), 1);
        due(what + " has one less", x.queue(q), places - 1);
        due(what + " has room again", put.on(x), 1);
        due(what + " is full once more", put.on(x), 0);
        for (int i = places - 1; i >= 0; i--) {
            due(what + " has something to take", take.on(x), 1);
            due(what + " has still " + i, x.queue(q), i);
        }
        due(what + " has no more to take", take.on(x), 0);
        due(what + " has none", x.queue(q), 0);
        due(what + " goes on", put.on(x) + take.on(x), 2);
    }

    /** 'L (loads, 4 places)'. */
    private static void loadsHaveFourPlaces() {
        SlippedStreams x = repeated(10, load(1, 0, 5));
        duePlaces("L", x, L, 4, o -> o.address(1), o -> o.value(1));
        due("L: losses", x.losses(), 0);
    }

    /** 'S (stored values, 4)'; the STORE that finds S empty does not wait, so it is not asked to. */
    private static void storedValuesHaveFourPlaces() {
        SlippedStreams x = repeated(10, store(1, 0, 5));
        for (int i = 1; i <= 4; i++) {
            due("S has room for " + i, x.value(1), 1);
            due("S has " + i, x.queue(S), i);
            due("S: the list is empty", x.queue(LIST), 0);
        }
        due("S is full", x.value(1), 0);
        due("S is full again", x.value(50), 0);
        due("S has as many", x.queue(S), 4);
        due("S: place", x.place(1), 4);
        due("S has one to take", x.address(1), 1);
        due("S has one less", x.queue(S), 3);
        due("S has room again", x.value(50), 1);
        for (int i = 3; i >= 0; i--) {
            due("S has something to take", x.address(1), 1);
            due("S has still " + i, x.queue(S), i);
            due("S: the list is still empty", x.queue(LIST), 0);
        }
        due("S is empty: a store without", x.address(1), 1);
        due("S stays empty", x.queue(S), 0);
        due("S: the list has it", x.queue(LIST), 1);
    }

    /** 'V (outcomes for the value stream, 4)'. */
    private static void outcomesForValuesHaveFourPlaces() {
        SlippedStreams x = repeated(10, less(0, 0, 0), load(1, 0, 0));
        duePlaces("V", x, V, 4, o -> o.address(1), o -> o.value(1));
        due("V: waiting for room is no loss", x.losses(), 0);
    }

    /** 'A (outcomes for the address stream, 4)'. */
    private static void outcomesForAddressesHaveFourPlaces() {
        SlippedStreams x = repeated(10, differ(1, 1, 0));
        duePlaces("A", x, A, 4, o -> o.value(1), o -> o.address(1));
        due("A: losses", x.losses(), 2);
    }

    /** 'R (registers, 6)'. */
    private static void registersHaveSixPlaces() {
        SlippedStreams x = repeated(10, out(0), load(1, 0, 0));
        duePlaces("R", x, R, 6, o -> o.address(1), o -> o.value(1));
        due("R: losses", x.losses(), 0);
    }

    /** 'waits when there is not room for all that it puts': two, with 4, 5 and 6 there. */
    private static void twoRegistersNeedRoomForBoth() {
        for (int there = 3; there <= 6; there++) {
            SlippedStreams x = repeated(there, out(0), sub(2, 0, 1), out(1), load(3, 0, 0), load(3, 1, 0));
            due("R gets " + there, x.address(there), there);
            boolean room = there <= 4;
            due("two with " + there, x.address(1), room ? 1 : 0);
            due("R behind two with " + there, x.queue(R), room ? there + 2 : there);
            due("place behind two with " + there, x.place(0), room ? there + 1 : there);
            due("value takes those before", x.value(there), there);
            due("value takes both or none", x.value(1), room ? 1 : 0);
            due("R has none", x.queue(R), 0);
            due("then both are put", x.address(1), 1);
        }
        SlippedStreams once = repeated(5, out(0), mul(2, 0, 0), load(3, 0, 0));
        due("the same one twice needs one place", once.address(6), 6);
        due("R is full with it", once.queue(R), 6);
    }

    /** A LESS or DIFFER of the value stream: waits for room, which is no waiting for an outcome. */
    private static void aRegisterOfABranchNeedsRoom() {
        for (int there = 5; there <= 6; there++) {
            SlippedStreams x = repeated(there, out(0), less(1, 0, 0), load(3, 0, 0));
            due("before the branch with " + there, x.address(there), there);
            due("the branch with " + there, x.address(50), there == 5 ? 1 : 0);
            due("R at the branch", x.queue(R), 6);
            due("losses at the branch", x.losses(), there == 5 ? 1 : 0);
            due("one taken", x.value(1), 1);
            due("the branch once more", x.address(50), there == 5 ? 0 : 1);
            due("R at the branch once more", x.queue(R), there == 5 ? 5 : 6);
        }
    }

    /** 'first b or a (a of OUT), then c, each once; nothing when it reads none'. */
    private static void onlyTheRegistersThatAreRead() {
        duePassed("none of ADD", add(4, 2, 3), 0);
        duePassed("b of ADD", add(4, 0, 3), 1);
        duePassed("c of ADD", add(4, 3, 0), 1);
        duePassed("b and c of SUB", sub(4, 0, 1), 2);
        duePassed("one of MUL", mul(4, 1, 1), 1);
        duePassed("a of OUT", out(1), 1);
        duePassed("a value of OUT", out(2), 0);
        duePassed("SET with b", Check.in(Check.SET, 4, 0, 0), 0);
        duePassed("OUT with b and c", Check.in(Check.OUT, 2, 0, 1), 0);
        duePassed("a of LESS", less(0, 2, 1), 1);
        duePassed("b of DIFFER", differ(2, 0, 1), 1);
        duePassed("LESS of values", less(2, 3, 1), 0);
        duePassed("LESS of one value", less(2, 2, 1), 0);
        SlippedStreams x = with(load(4, 0, 1), load(3, 1, 0));
        x.address(1);
        due("LOAD: L", x.queue(L), 1);
        due("LOAD puts nothing into R", x.queue(R), 0);
    }

    private static void duePassed(String what, int[] instruction, int count) {
        SlippedStreams x = with(instruction, load(5, 0, 0), load(5, 1, 0));
        boolean branch = instruction[0] == Check.LESS || instruction[0] == Check.DIFFER;
        due(what + ": moves", x.address(1), branch && count == 0 ? 0 : 1);
        due(what + ": R", x.queue(R), count);
        due(what + ": L", x.queue(L), count == 0 && !branch ? 1 : 0);
        due(what + ": taken", x.value(1), 1);
        due(what + ": all taken", x.queue(R), 0);
    }

    /** 'What is put first is taken first', for more things than there are places: L. */
    private static void loadsComeInOrderRoundTheEnd() {
        for (int ahead = 1; ahead <= 4; ahead++) {
            SlippedStreams x = new SlippedStreams();
            for (int i = 0; i < 24; i++) {
                CHECK.addAll(x, load(1, 0, i));
            }
            x.fill(100, 7);
            x.address(ahead);
            for (int i = 0; i < 24; i++) {
                due("L " + ahead + " ahead, take " + i, x.value(1), 1);
                due("L " + ahead + " ahead, thing " + i, x.register(1, false), 100 + 7 * i);
                due("L " + ahead + " ahead, put", x.address(1), i + ahead < 24 ? 1 : 0);
            }
        }
    }

    /** The same for S: seven values, stored again and again. */
    private static void storedValuesComeInOrderRoundTheEnd() {
        for (int ahead = 1; ahead <= 4; ahead++) {
            SlippedStreams x = new SlippedStreams();
            for (int r = 1; r <= 7; r++) {
                CHECK.addAll(x, set(r, 10 + r));
            }
            for (int i = 0; i < 17; i++) {
                CHECK.addAll(x, store(1 + i % 7, 0, i));
            }
            x.value(7 + ahead);
            for (int i = 0; i < 17; i++) {
                due("S " + ahead + " ahead", x.queue(S), Math.min(ahead, 17 - i));
                due("S " + ahead + " ahead, take " + i, x.address(1), 1);
                due("S " + ahead + " ahead, thing " + i, x.peek(i, false), 11 + i % 7);
                due("S " + ahead + " ahead, put", x.value(1), i + ahead < 17 ? 1 : 0);
            }
        }
    }

    private static final boolean[] OUTCOMES = {true, false, false, true, false, true, true, true, false, true};

    /** The same for V: where the outcome is false, the value stream goes through an OUT. */
    private static void outcomesForValuesComeInOrderRoundTheEnd() {
        for (int ahead = 1; ahead <= 4; ahead++) {
            List<int[]> program = new ArrayList<>(List.of(set(1, 1)));
            for (int i = 0; i < OUTCOMES.length; i++) {
                program.add(differ(0, OUTCOMES[i] ? 1 : 0, program.size() + 2));
                program.add(out(7));
            }
            program.add(load(2, 0, 0));
            program.add(load(2, 1, 0));
            SlippedStreams x = with(program);
            x.address(1 + ahead);
            for (int i = 0; i < OUTCOMES.length; i++) {
                due("V " + ahead + " ahead, take " + i, x.value(1), 1);
                due("V " + ahead + " ahead, goes " + i, x.place(1), 1 + 2 * i + (OUTCOMES[i] ? 2 : 1));
                if (!OUTCOMES[i]) {
                    x.value(1);
                }
                due("V " + ahead + " ahead, put", x.address(1), i + ahead < OUTCOMES.length + 2 ? 1 : 0);
            }
        }
    }

    /** The same for A: where the outcome is false, the address stream goes through a SET. */
    private static void outcomesForAddressesComeInOrderRoundTheEnd() {
        for (int ahead = 1; ahead <= 4; ahead++) {
            List<int[]> program = new ArrayList<>(List.of(set(2, 1)));
            for (int i = 0; i < OUTCOMES.length; i++) {
                program.add(differ(1, OUTCOMES[i] ? 2 : 1, program.size() + 2));
                program.add(set(0, 50 + i));
            }
            program.add(load(3, 0, 0));
            SlippedStreams x = with(program);
            x.value(1 + ahead);
            int last = 0;
            for (int i = 0; i < OUTCOMES.length; i++) {
                due("A " + ahead + " ahead", x.queue(A), Math.min(ahead, OUTCOMES.length - i));
                due("A " + ahead + " ahead, take " + i, x.address(1), 1);
                due("A " + ahead + " ahead, goes " + i, x.place(0), 1 + 2 * i + (OUTCOMES[i] ? 2 : 1));
                if (!OUTCOMES[i]) {
                    x.address(1);
                    last = 50 + i;
                }
                due("A " + ahead + " ahead, r0 behind " + i, x.register(0, false), last);
                due("A " + ahead + " ahead, put", x.value(1), i + ahead < OUTCOMES.length ? 1 : 0);
            }
            due("A " + ahead + " ahead, losses", x.losses(), 0);
        }
    }

    /** The same for R: registers that change between, alone and in twos. */
    private static void registersComeInOrderRoundTheEnd() {
        for (int ahead = 1; ahead <= 6; ahead++) {
            List<int[]> program = new ArrayList<>();
            for (int i = 0; i < 11; i++) {
                program.add(set(0, 30 + i));
                program.add(out(0));
            }
            program.add(load(1, 0, 0));
            SlippedStreams x = with(program);
            x.address(2 * ahead);
            for (int i = 0; i < 11; i++) {
                due("R " + ahead + " ahead", x.queue(R), Math.min(ahead, 11 - i));
                due("R " + ahead + " ahead, take " + i, x.value(1), 1);
                due("R " + ahead + " ahead, thing " + i, x.output(i, false), 30 + i);
                x.address(i + ahead < 11 ? 2 : 1);
            }
        }
        SlippedStreams twos = with(set(1, 1), set(0, 10), sub(2, 0, 1), out(2), set(0, 20), sub(2, 1, 0), out(2),
                set(1, 2), sub(2, 0, 1), out(2), set(0, 30), sub(2, 1, 0), out(2), set(1, 3), out(1),
                sub(2, 0, 1), out(2), set(0, 40), sub(2, 1, 0), out(2), load(3, 0, 0), load(3, 1, 0));
        int[] want = {9, -19, 18, -28, 3, 27, -37};
        due("twos: three of them", twos.address(50), 3 + 2 + 2 + 1);
        due("twos: R is full", twos.queue(R), 6);
        for (int i = 0; i < want.length; i++) {
            twos.value(i == 4 ? 1 : 2);
            due("twos: thing " + i, twos.output(i, false), want[i]);
            twos.address(50);
        }
        due("twos: all", twos.outputs(false), want.length);
    }

    /** 'THE LIST has up to 6 stores', 'waits when the list is full'. */
    private static void theListHasSixPlaces() {
        SlippedStreams x = repeated(12, store(1, 0, 5));
        for (int i = 1; i <= 6; i++) {
            due("list has room for " + i, x.address(1), 1);
            due("list has " + i, x.queue(LIST), i);
        }
        due("list is full", x.address(1), 0);
        due("list is full again", x.address(50), 0);
        due("list has six", x.queue(LIST), 6);
        due("list: place", x.place(0), 6);
        due("list: losses", x.losses(), 0);
        due("list: one value", x.value(1), 1);
        due("list has five", x.queue(LIST), 5);
        due("list has room again", x.address(50), 1);
        due("list is full once more", x.queue(LIST), 6);
        for (int i = 5; i >= 0; i--) {
            due("list: a value", x.value(1), 1);
            due("list has still " + i, x.queue(LIST), i);
            due("list: S is empty", x.queue(S), 0);
        }
        due("list is empty: into S", x.value(1), 1);
        due("list stays empty", x.queue(LIST), 0);
        due("list: S has one", x.queue(S), 1);
    }

    /** A store that has its value waits for a place as well, and then stays behind the others. */
    private static void aFullListWaitsForKnownValuesToo() {
        SlippedStreams x = repeated(6, store(1, 0, 5), set(0, 3), store(0, 0, 9));
        due("full: six and the SET", x.address(50), 7);
        due("full: place", x.place(0), 7);
        due("full: not written", x.peek(12, false), 0);
        due("full: one value", x.value(1), 1);
        due("full: now it has a place", x.address(50), 1);
        due("full: six again", x.queue(LIST), 6);
        due("full: still not written", x.peek(12, false), 0);
        due("full: five values", x.value(50), 5);
        due("full: empty", x.queue(LIST), 0);
        due("full: written", x.peek(12, false), 3);
    }

    /** Only a STORE waits for the list, and a LOAD only for its own address. */
    private static void aFullListIsNotInTheWayOfOthers() {
        SlippedStreams x = repeated(6, store(1, 0, 5), set(0, 3), add(0, 0, 0), less(0, 0, 0), load(2, 0, 7), out(0),
                load(0, 0, 8), store(0, 0, 0));
        x.fill(1, 1);
        due("in the way of no others", x.address(50), 6 + 6);
        due("in the way of a STORE", x.place(0), 12);
        due("in the way: the word", x.register(0, false), 15);
    }

    /** 'the first one, when its value is there, leaves the list and its word is written; and again'. */
    private static void theFirstStoreLeavesAndAgain() {
        SlippedStreams x = with(set(0, 8), set(1, 70), store(1, 0, 0), store(0, 0, 1), store(0, 0, 2), set(1, 71),
                store(1, 0, 3), store(0, 0, 4), store(1, 0, 5));
        due("again: all are put", x.address(50), 7);
        due("again: six", x.queue(LIST), 6);
        dueWords("again: none written", x, 0, 0, 0, 0, 0, 0);
        due("again: the first value", x.value(2), 2);
        due("again: three are left", x.queue(LIST), 3);
        dueWords("again: three written", x, 70, 8, 8, 0, 0, 0);
        due("again: a SET", x.value(1), 1);
        due("again: three are left still", x.queue(LIST), 3);
        due("again: the next value is one move", x.value(1), 1);
        due("again: one is left", x.queue(LIST), 1);
        dueWords("again: five written", x, 70, 8, 8, 71, 8, 0);
        due("again: the last value", x.value(50), 1);
        due("again: none is left", x.queue(LIST), 0);
        dueWords("again: all written", x, 70, 8, 8, 71, 8, 71);
    }

    private static void dueWords(String what, SlippedStreams x, int... words) {
        for (int i = 0; i < words.length; i++) {
            due(what + ", word " + (8 + i), x.peek(8 + i, false), words[i]);
        }
    }

    private static void aKnownStoreBehindAMissingOneStays() {
        SlippedStreams x = with(set(0, 8), store(1, 0, 0), store(0, 0, 1), load(2, 0, 2), load(2, 0, 1));
        due("stays: up to the LOAD of its word", x.address(50), 4);
        due("stays: place", x.place(0), 4);
        due("stays: two", x.queue(LIST), 2);
        due("stays: not written", x.peek(9, false), 0);
        due("stays: a value", x.value(1), 1);
        due("stays no more", x.queue(LIST), 0);
        due("stays no more: written", x.peek(9, false), 8);
        due("stays no more: loaded", x.address(50), 1);
        due("stays no more: value", x.value(50), 2);
        due("stays no more: the word", x.register(2, false), 8);
    }

    private static void sixStoresLeaveInOneMove() {
        SlippedStreams x = with(set(0, 8), store(1, 0, 0), store(0, 0, 1), store(0, 0, 2), store(0, 0, 3),
                store(0, 0, 4), store(0, 0, 5), store(0, 0, 6));
        x.fill(-1, 0);
        due("six: all but the last", x.address(50), 7);
        due("six are there", x.queue(LIST), 6);
        due("six: one value, one move", x.value(50), 1);
        due("six have left", x.queue(LIST), 0);
        dueWords("six", x, 0, 8, 8, 8, 8, 8, -1);
        due("six: the last", x.address(50), 1);
        due("six: the last has left at once", x.queue(LIST), 0);
        due("six: the last is written", x.peek(14, false), 8);
    }

    /** 'this belongs to the move that made it so': also to the move that puts the store in. */
    private static void aStoreWithItsValueLeavesAtOnce() {
        SlippedStreams x = with(set(0, 8), store(0, 0, 0), set(1, 9), store(1, 0, 1));
        due("at once: address register", x.address(2), 2);
        due("at once: not in the list", x.queue(LIST), 0);
        due("at once: written", x.peek(8, false), 8);
        due("at once: value", x.value(50), 2);
        due("at once: S", x.queue(S), 1);
        due("at once: not before its STORE", x.peek(9, false), 0);
        due("at once: taken", x.address(50), 1);
        due("at once: not in the list either", x.queue(LIST), 0);
        due("at once: S is empty", x.queue(S), 0);
        due("at once: written too", x.peek(9, false), 9);
    }

    /** 'waits while a store in the list has the same address': the first, one between, the last of six. */
    private static void loadsWaitForAnyStoreOfTheList() {
        for (int stores = 0; stores <= 6; stores++) {
            for (int word = 0; word < 7; word++) {
                for (int a = 1; a <= 2; a++) {
                    List<int[]> program = new ArrayList<>();
                    for (int i = 0; i < stores; i++) {
                        program.add(store(3, 0, i));
                    }
                    program.add(load(a, 0, word));
                    program.add(load(4, 2, 31));
                    SlippedStreams x = with(program);
                    String what = stores + " stores, LOAD " + word + " into " + a;
                    boolean waits = word < stores;
                    due(what, x.address(stores + 1), waits ? stores : stores + 1);
                    for (int i = 0; waits && i <= word; i++) {
                        due(what + ": value " + i, x.value(1), 1);
                        due(what + ": behind value " + i, x.address(1), i == word ? 1 : 0);
                    }
                }
            }
        }
    }

    private static void theLaterStoreOfOneWordWins() {
        SlippedStreams x = with(set(0, 4), set(1, 61), store(1, 0, 0), set(1, 62), store(1, 0, 32), store(0, 0, -32),
                load(2, 0, 0));
        due("later: up to the LOAD", x.address(50), 4);
        due("later: three for one word", x.queue(LIST), 3);
        due("later: the first value", x.value(2), 2);
        due("later: the first is written", x.peek(4, false), 61);
        due("later: the LOAD waits still", x.address(50), 0);
        due("later: the next value", x.value(2), 2);
        due("later: the last is written", x.peek(4, false), 4);
        due("later: the LOAD", x.address(50), 1);
    }

    /** More stores than places, so that the list goes round its end wherever it began. */
    private static void theListRoundItsEnd() {
        for (int ahead = 1; ahead <= 6; ahead++) {
            SlippedStreams x = new SlippedStreams();
            for (int r = 1; r <= 7; r++) {
                CHECK.addAll(x, set(r, 10 + r));
            }
            for (int i = 0; i < 17; i++) {
                CHECK.addAll(x, store(1 + i % 7, 0, 31 - i));
            }
            x.value(7);
            x.address(ahead);
            for (int i = 0; i < 17; i++) {
                String what = "round with " + ahead + ", store " + i;
                due(what + ": list", x.queue(LIST), Math.min(ahead, 17 - i));
                due(what + ": not yet", x.peek(31 - i, false), 0);
                due(what + ": value", x.value(1), 1);
                due(what + ": written", x.peek(31 - i, false), 11 + i % 7);
                due(what + ": next", x.address(1), i + ahead < 17 ? 1 : 0);
            }
        }
    }

    /** 'to the first store in the list whose value is missing, if there is one; otherwise ... into S'. */
    private static void valuesGoToTheListBeforeTheyGoIntoS() {
        SlippedStreams x = with(set(1, 5), store(1, 0, 1), set(1, 6), store(1, 0, 2), set(1, 7), store(1, 0, 3),
                set(1, 8), store(1, 0, 4));
        due("to the list: two missing", x.address(2), 2);
        due("to the list: all values", x.value(50), 8);
        due("to the list: two into S", x.queue(S), 2);
        due("to the list: none is left", x.queue(LIST), 0);
        for (int i = 1; i <= 4; i++) {
            due("to the list: word " + i, x.peek(i, false), i <= 2 ? 4 + i : 0);
        }
        due("to the list: the rest", x.address(50), 2);
        for (int i = 1; i <= 4; i++) {
            due("to the list: at last word " + i, x.peek(i, false), 4 + i);
        }
    }

    /** 'with its value when a is an address register; otherwise with the first value of S ... or without'. */
    private static void onlyStoresOfValuesTakeFromS() {
        SlippedStreams x = with(set(0, 9), store(0, 0, 0), set(1, 5), store(1, 0, 1), store(0, 0, 2), store(1, 0, 3),
                set(1, 6), store(1, 0, 4));
        due("from S: the value stream ahead", x.value(3), 3);
        due("from S: two are in it", x.queue(S), 2);
        due("from S: an address register", x.address(2), 2);
        due("from S: it took none", x.queue(S), 2);
        due("from S: its own value", x.peek(9, false), 9);
        due("from S: a value register", x.address(1), 1);
        due("from S: it took one", x.queue(S), 1);
        due("from S: the first one", x.peek(10, false), 5);
        due("from S: an address register again", x.address(1), 1);
        due("from S: one is still in it", x.queue(S), 1);
        due("from S: its own value again", x.peek(11, false), 9);
        due("from S: the last one", x.address(1), 1);
        due("from S: it is empty", x.queue(S), 0);
        due("from S: written", x.peek(12, false), 5);
        due("from S: a store without", x.address(1), 1);
        due("from S: it is in the list", x.queue(LIST), 1);
        due("from S: its value comes later", x.value(50), 2);
        due("from S: and is written", x.peek(13, false), 6);
    }
}
