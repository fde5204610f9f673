/** For each promise of the document runs of calls with ordinary and wrong inputs, and README.md's example. */
public final class PromisesTest extends Bench {
    public static void main(String[] args) {
        aNewObject();
        makeNumbersAndLays();
        makeTakesTheLowestRoom();
        makeReckonsForRoom();
        makeRefuses();
        makeFindsNoRoom();
        copies();
        loads();
        storesAndNotes();
        storeWithAFullLogReckons();
        storeRefuses();
        drops();
        reckons();
        reckonsByFirstStateAlone();
        reckonFreesChains();
        reckonKeepsRingsAndWhatTheStackHolds();
        stackAndHeld();
        aliveAndFree();
        countsOnlyAtReckonings();
        cells();
        slots();
        tableAndState();
        logAndEntries();
        reckoningsAreCounted();
        theExampleOfTheReadme();
        due.end();
    }

    private static void aNewObject() {
        begin("promise 1");
        due.is("alive()", x.alive(), 0);
        due.is("stack()", x.stack(), 0);
        due.is("table()", x.table(), 0);
        due.is("log()", x.log(), 0);
        due.is("free()", x.free(), 48);
        due.is("reckonings()", x.reckonings(), 0);
        LazyCounts other = new LazyCounts();
        other.make(4);
        due.is("alive() beside another", x.alive(), 0);
        due.is("free() beside another", x.free(), 48);
    }

    private static void makeNumbersAndLays() {
        begin("promise 2, ordinary");
        int[] firsts = {0, 2, 5, 9};
        for (int slots = 1; slots <= 4; slots++) {
            make(slots, slots);
            due.is("stack()", x.stack(), slots);
            due.is("held", x.held(slots - 1), slots);
            due.is("cell(" + slots + ")", x.cell(slots), firsts[slots - 1]);
            due.is("count(" + slots + ")", x.count(slots), 0);
            due.is("state(" + slots + ")", x.state(slots), 1);
            for (int slot = 0; slot < slots; slot++) {
                due.is("slot " + slot, x.slot(slots, slot), 0);
            }
            due.is("slot beyond", x.slot(slots, slots), BAD);
        }
        due.is("reckonings()", x.reckonings(), 0);
    }

    private static void makeTakesTheLowestRoom() {
        begin("promise 2, lowest room");
        make(1, 1);
        make(1, 2);
        make(2, 3);
        make(1, 4);
        dropAll();
        make(1, 5);
        due.is("cell(5), for what is dropped lies on", x.cell(5), 9);
        store(0, 0, 0, true);
        reckon(4);
        make(4, 6);
        due.is("cell(6)", x.cell(6), 0);
        make(4, 7);
        due.is("cell(7), for 5 .. 8 are too few", x.cell(7), 11);
        make(3, 8);
        due.is("cell(8), which fits just", x.cell(8), 5);
    }

    private static void makeReckonsForRoom() {
        begin("promise 2, reckoning for room");
        for (int number = 1; number <= 9; number++) {
            make(4, number);
            due.is("cell", x.cell(number), 5 * (number - 1));
            if (number % 2 == 0) {
                drop(number);
            }
        }
        due.is("free()", x.free(), 3);
        make(2, 10);
        due.is("cell(10), the very last room", x.cell(10), 45);
        due.is("reckonings()", x.reckonings(), 0);
        drop(10);
        make(1, 11);
        due.is("reckonings() once there is no room", x.reckonings(), 1);
        due.is("cell(11), the lowest after the reckoning", x.cell(11), 5);
        due.is("alive()", x.alive(), 6);
        due.is("state(11)", x.state(11), 1);
        due.is("slot(11, 0), where another lay", x.slot(11, 0), 0);

        begin("promise 2, slots are empty where others lay");
        make(4, 1);
        for (int slot = 0; slot < 4; slot++) {
            store(0, slot, 0, true);
        }
        reckon(0);
        due.is("count(1)", x.count(1), 4);
        for (int slot = 0; slot < 4; slot++) {
            store(0, slot, -1, true);
        }
        store(0, 2, -1, true);
        make(4, 2);
        store(1, 1, 0, true);
        dropAll();
        reckon(2);
        make(4, 3);
        due.is("cell(3)", x.cell(3), 0);
        due.is("count(3)", x.count(3), 0);
        make(4, 4);
        for (int slot = 0; slot < 4; slot++) {
            due.is("slot(3)", x.slot(3, slot), 0);
            due.is("slot(4)", x.slot(4, slot), 0);
        }
    }

    private static void makeRefuses() {
        begin("promise 2, refusals");
        int[] noSlots = {Integer.MIN_VALUE, -1, 0, 5, Integer.MAX_VALUE};
        for (int slots : noSlots) {
            make(slots, BAD);
        }
        make(1, 1);
        fillStack();
        for (int slots : noSlots) {
            make(slots, BAD);
        }
        make(1, FULL);
        due.is("alive()", x.alive(), 1);
        due.is("reckonings()", x.reckonings(), 0);
        drop(1);
        make(1, 2);
    }

    private static void makeFindsNoRoom() {
        begin("promise 2, NONE in a heap that is held");
        make(1, 1);
        for (int number = 2; number <= 10; number++) {
            make(4, number);
            x.load(0, 0);
            store(1, 0, 2, true);
            store(0, 0, 1, true);
            dropDownTo(1);
        }
        due.is("free()", x.free(), 1);
        make(1, NONE);
        due.is("alive(), for all are held", x.alive(), 10);
        due.is("stack()", x.stack(), 1);
        store(0, 0, -1, true);
        make(4, 11);
        due.is("cell(11), where the chain lay", x.cell(11), 2);
        due.is("alive()", x.alive(), 2);

        begin("promise 2, NONE among cells that are no neighbours");
        for (int number = 1; number <= 12; number++) {
            make(3, number);
            if (number % 2 == 1) {
                drop(number);
            }
        }
        store(0, 0, 1, true);
        due.is("free()", x.free(), 0);
        make(4, NONE);
        due.is("free(), but never more than four neighbours", x.free(), 24);
        due.is("alive()", x.alive(), 6);
        due.is("reckonings()", x.reckonings(), 1);
        due.is("log()", x.log(), 0);
        due.is("count(4)", x.count(4), 1);
        due.is("stack()", x.stack(), 6);
        make(4, NONE);
        due.is("reckonings() once more", x.reckonings(), 2);
        make(3, 13);
        due.is("cell(13)", x.cell(13), 0);
        due.is("reckonings(), for there was room", x.reckonings(), 2);
        fillStack();
        make(4, FULL);
        due.is("reckonings() after FULL", x.reckonings(), 2);
        make(5, BAD);
        due.is("reckonings() after BAD", x.reckonings(), 2);
    }

    private static void copies() {
        begin("promise 3");
        make(1, 1);
        make(1, 2);
        due.is("load(0, 0)", x.load(0, 0), 0);
        due.is("copy(0)", x.copy(0), 1);
        due.is("copy(1)", x.copy(1), 2);
        due.is("copy(2) of nothing", x.copy(2), 0);
        due.is("stack()", x.stack(), 6);
        due.is("held(3)", x.held(3), 1);
        due.is("held(4)", x.held(4), 2);
        due.is("held(5)", x.held(5), 0);
        due.is("copy(6)", x.copy(6), BAD);
        due.is("copy(5)", x.copy(5), 0);
        due.is("copy(6)", x.copy(6), 0);
        due.is("copy(7) with 8 places", x.copy(7), FULL);
        due.is("copy(0) with 8 places", x.copy(0), FULL);
        for (int place : NEVER_A_PLACE) {
            due.is("copy(" + place + ") with 8 places", x.copy(place), BAD);
        }
        due.is("stack()", x.stack(), 8);
        due.is("count(1), for the stack is never counted", x.count(1), 0);
        reckon(0);
        due.is("count(1) after a reckoning", x.count(1), 0);
    }

    private static void loads() {
        begin("promise 4");
        make(3, 1);
        make(1, 2);
        make(1, 3);
        store(0, 0, 1, true);
        store(0, 2, 2, true);
        due.is("load(0, 0)", x.load(0, 0), 2);
        due.is("load(0, 1)", x.load(0, 1), 0);
        due.is("load(0, 2)", x.load(0, 2), 3);
        due.is("held(3)", x.held(3), 2);
        due.is("held(4)", x.held(4), 0);
        due.is("held(5)", x.held(5), 3);
        due.is("load(0, 3)", x.load(0, 3), BAD);
        due.is("load(0, -1)", x.load(0, -1), BAD);
        due.is("load(1, 1)", x.load(1, 1), BAD);
        due.is("load(4, 0) from nothing", x.load(4, 0), BAD);
        due.is("load(6, 0)", x.load(6, 0), BAD);
        due.is("load(0, largest)", x.load(0, Integer.MAX_VALUE), BAD);
        due.is("load(0, least)", x.load(0, Integer.MIN_VALUE), BAD);
        fillStack();
        due.is("load(0, 0) with 8 places", x.load(0, 0), FULL);
        due.is("load(0, 3) with 8 places", x.load(0, 3), BAD);
        due.is("load(4, 0) with 8 places", x.load(4, 0), BAD);
        for (int place : NEVER_A_PLACE) {
            due.is("load(" + place + ", 0) with 8 places", x.load(place, 0), BAD);
        }
        due.is("stack()", x.stack(), 8);
    }

    private static void storesAndNotes() {
        begin("promise 5, ordinary");
        make(4, 1);
        make(1, 2);
        store(0, 3, 1, true);
        store(0, 0, 0, true);
        due.is("slot(1, 3)", x.slot(1, 3), 2);
        due.is("slot(1, 0)", x.slot(1, 0), 1);
        due.is("slot(1, 1)", x.slot(1, 1), 0);
        due.is("log(), for an object is noted once", x.log(), 1);
        due.is("entry(0, 3), before the first write", x.entry(0, 3), 0);
        store(0, 3, -1, true);
        due.is("slot(1, 3) after nothing was written", x.slot(1, 3), 0);
        due.is("load(0, 1)", x.load(0, 1), 0);
        store(0, 0, 2, true);
        due.is("slot(1, 0) after a place's nothing was written", x.slot(1, 0), 0);
        due.is("state(2)", x.state(2), 1);
        store(1, 0, -1, true);
        due.is("state(2), noted by a write that changes nothing", x.state(2), 3);
        due.is("log()", x.log(), 2);
        due.is("stack()", x.stack(), 3);
        due.is("reckonings()", x.reckonings(), 0);
    }

    private static void storeWithAFullLogReckons() {
        begin("promise 5, full log");
        for (int number = 1; number <= 7; number++) {
            make(1, number);
        }
        for (int place = 0; place < 5; place++) {
            store(place, 0, place + 1, true);
        }
        due.is("log()", x.log(), 5);
        store(4, 0, 6, true);
        store(0, 0, 0, true);
        due.is("reckonings(), for a noted object needs no entry", x.reckonings(), 0);
        drop(7);
        store(5, 0, 0, true);
        due.is("reckonings()", x.reckonings(), 1);
        due.is("log()", x.log(), 1);
        due.is("entry(0, -1)", x.entry(0, -1), 6);
        due.is("entry(0, 0)", x.entry(0, 0), 0);
        due.is("slot(6, 0)", x.slot(6, 0), 1);
        due.is("count(1), of itself alone", x.count(1), 1);
        due.is("count(2), whose holder was overwritten", x.count(2), 0);
        due.is("count(7), held by the heap alone", x.count(7), 1);
        due.is("state(1), no longer noted", x.state(1), 0);

        begin("promise 5, what is freed by a full log's reckoning");
        make(1, 1);
        for (int number = 2; number <= 6; number++) {
            makeNoted(number);
        }
        due.is("alive()", x.alive(), 6);
        store(0, 0, 0, true);
        due.is("alive() after the reckoning", x.alive(), 1);
        due.is("count(1), counted only at the next one", x.count(1), 0);
        due.is("state(1)", x.state(1), 3);
        reckon(0);
        due.is("count(1)", x.count(1), 1);
    }

    private static void storeRefuses() {
        begin("promise 5, refusals");
        make(2, 1);
        make(2, 2);
        due.is("load(0, 0)", x.load(0, 0), 0);
        for (int place : NEVER_A_PLACE) {
            store(place, 0, 0, false);
            store(0, 0, place, place == -1);
        }
        reckon(0);
        store(3, 0, 0, false);
        store(2, 0, 0, false);
        store(1, 2, 0, false);
        store(1, -1, 0, false);
        store(1, Integer.MAX_VALUE, 0, false);
        store(1, Integer.MIN_VALUE, 0, false);
        store(1, 0, 3, false);
        store(1, 0, -2, false);
        due.is("log(), for a refused call changes nothing", x.log(), 0);
        due.is("slot(2, 0)", x.slot(2, 0), 0);

        begin("promise 5, a refusal with a full log");
        make(1, 1);
        for (int number = 2; number <= 6; number++) {
            makeNoted(number);
        }
        store(0, 0, 1, false);
        store(0, 1, 0, false);
        due.is("reckonings()", x.reckonings(), 0);
        due.is("log()", x.log(), 5);
    }

    private static void drops() {
        begin("promise 6");
        drop(BAD);
        make(1, 1);
        make(1, 2);
        due.is("load(0, 0)", x.load(0, 0), 0);
        drop(0);
        drop(2);
        due.is("stack()", x.stack(), 1);
        due.is("held(0)", x.held(0), 1);
        due.is("alive(), for only a reckoning frees", x.alive(), 2);
        drop(1);
        drop(BAD);
        due.is("stack()", x.stack(), 0);
        due.is("alive()", x.alive(), 2);
        due.is("reckonings()", x.reckonings(), 0);
    }

    private static void reckons() {
        begin("promise 7");
        reckon(0);
        make(2, 1);
        make(1, 2);
        make(1, 3);
        store(0, 0, 1, true);
        store(0, 1, 1, true);
        reckon(0);
        due.is("count(2), held twice by one", x.count(2), 2);
        due.is("log()", x.log(), 0);
        due.is("slot(1, 0), which a reckoning leaves", x.slot(1, 0), 2);
        drop(3);
        drop(2);
        reckon(1);
        due.is("cell(3)", x.cell(3), NONE);
        store(0, 0, -1, true);
        reckon(0);
        due.is("count(2)", x.count(2), 1);
        store(0, 1, -1, true);
        due.is("count(2) before the reckoning", x.count(2), 1);
        reckon(1);
        due.is("count(2) after it", x.count(2), NONE);
        reckon(0);
        due.is("free()", x.free(), 45);
    }

    private static void reckonsByFirstStateAlone() {
        begin("promise 7, between two reckonings");
        make(1, 1);
        make(1, 2);
        make(1, 3);
        make(1, 4);
        store(0, 0, 1, true);
        reckon(0);
        store(0, 0, 2, true);
        store(0, 0, 3, true);
        reckon(0);
        due.is("count(2), held before the first write", x.count(2), 0);
        due.is("count(3), held only between", x.count(3), 0);
        due.is("count(4), held now", x.count(4), 1);
        store(0, 0, 1, true);
        store(0, 0, 3, true);
        reckon(0);
        due.is("count(4), held before and now", x.count(4), 1);
        due.is("count(2)", x.count(2), 0);
        due.is("table()", x.table(), 3);

        begin("promise 7, moved from one holder to another");
        make(1, 1);
        make(1, 2);
        make(1, 3);
        store(0, 0, 2, true);
        drop(3);
        reckon(0);
        due.is("load(0, 0)", x.load(0, 0), 3);
        store(0, 0, -1, true);
        store(1, 0, 2, true);
        drop(3);
        reckon(0);
        due.is("count(3), 1 less and then 1 more", x.count(3), 1);
        due.is("state(3)", x.state(3), 0);
    }

    private static void reckonFreesChains() {
        begin("promise 7, a chain of eight");
        for (int number = 1; number <= 8; number++) {
            make(2, number);
        }
        for (int place = 0; place < 7; place++) {
            store(place, 1, place + 1, true);
        }
        dropDownTo(1);
        reckon(0);
        due.is("alive()", x.alive(), 8);
        drop(1);
        reckon(8);
        due.is("free()", x.free(), 48);
        due.is("table()", x.table(), 0);

        begin("promise 7, a chain against the order of the cells");
        for (int number = 1; number <= 8; number++) {
            make(1, number);
        }
        for (int place = 7; place > 0; place--) {
            store(place, 0, place - 1, true);
        }
        dropAll();
        reckon(8);
        due.is("alive()", x.alive(), 0);

        begin("promise 7, freeing stops at what is held still");
        make(2, 1);
        make(1, 2);
        make(1, 3);
        make(1, 4);
        store(1, 0, 3, true);
        store(2, 0, 3, true);
        store(0, 0, 1, true);
        store(0, 1, 2, true);
        dropDownTo(1);
        reckon(0);
        due.is("count(4)", x.count(4), 2);
        store(0, 0, -1, true);
        reckon(1);
        due.is("count(4), which one freed and one alive held", x.count(4), 1);
        store(0, 1, -1, true);
        reckon(2);
        due.is("alive()", x.alive(), 1);
    }

    private static void reckonKeepsRingsAndWhatTheStackHolds() {
        begin("promise 7, rings");
        make(1, 1);
        store(0, 0, 0, true);
        make(2, 2);
        make(1, 3);
        store(1, 0, 2, true);
        store(2, 0, 1, true);
        make(1, 4);
        store(1, 1, 3, true);
        dropAll();
        reckon(0);
        due.is("alive()", x.alive(), 4);
        due.is("count(1)", x.count(1), 1);
        due.is("count(2)", x.count(2), 1);
        due.is("count(3)", x.count(3), 1);
        due.is("table()", x.table(), 0);

        begin("promise 7, what the stack holds");
        make(1, 1);
        make(1, 2);
        store(0, 0, 1, true);
        due.is("copy(0)", x.copy(0), 1);
        due.is("copy(1)", x.copy(1), 2);
        reckon(0);
        store(0, 0, -1, true);
        reckon(0);
        due.is("state(2)", x.state(2), 1);
        drop(2);
        drop(1);
        reckon(0);
        due.is("alive(), held by a lower place", x.alive(), 2);
        drop(2);
        reckon(1);
        due.is("alive()", x.alive(), 1);
    }

    private static void stackAndHeld() {
        begin("promises 8 and 9");
        for (int place : NEVER_A_PLACE) {
            due.is("held(" + place + ")", x.held(place), BAD);
        }
        due.is("held(0)", x.held(0), BAD);
        make(1, 1);
        due.is("stack()", x.stack(), 1);
        due.is("held(0)", x.held(0), 1);
        due.is("held(1)", x.held(1), BAD);
        due.is("load(0, 0)", x.load(0, 0), 0);
        due.is("held(1) of nothing", x.held(1), 0);
        make(1, 2);
        due.is("held(2)", x.held(2), 2);
        due.is("held(0), the lowest", x.held(0), 1);
        fillStack();
        due.is("stack()", x.stack(), 8);
        due.is("held(7)", x.held(7), 1);
        for (int place : NEVER_A_PLACE) {
            due.is("held(" + place + ") with 8 places", x.held(place), BAD);
        }
        drop(1);
        due.is("stack()", x.stack(), 7);
        due.is("held(7) once it is dropped", x.held(7), BAD);
    }

    private static void aliveAndFree() {
        begin("promises 10 and 18");
        make(1, 1);
        due.is("alive()", x.alive(), 1);
        due.is("free()", x.free(), 46);
        make(4, 2);
        due.is("alive()", x.alive(), 2);
        due.is("free()", x.free(), 41);
        drop(2);
        due.is("alive() before the reckoning", x.alive(), 2);
        due.is("free() before the reckoning", x.free(), 41);
        reckon(1);
        due.is("alive()", x.alive(), 1);
        due.is("free()", x.free(), 46);

        begin("promises 10 and 18, a heap without a free cell");
        for (int number = 1; number <= 24; number++) {
            make(1, number);
            drop(number);
        }
        due.is("alive()", x.alive(), 24);
        due.is("free()", x.free(), 0);
        due.is("table()", x.table(), 24);
        due.is("reckonings()", x.reckonings(), 0);
        reckon(24);
        due.is("alive()", x.alive(), 0);
        due.is("free()", x.free(), 48);
    }

    private static void countsOnlyAtReckonings() {
        begin("promise 11");
        due.is("count(1)", x.count(1), NONE);
        make(2, 1);
        make(1, 2);
        store(0, 0, 1, true);
        due.is("count(2) before a reckoning", x.count(2), 0);
        store(0, 1, 1, true);
        store(1, 0, 1, true);
        reckon(0);
        due.is("count(2)", x.count(2), 3);
        due.is("count(1)", x.count(1), 0);
        due.is("count(0)", x.count(0), NONE);
        due.is("count(-1)", x.count(-1), NONE);
        due.is("count(3)", x.count(3), NONE);
        due.is("count(least)", x.count(Integer.MIN_VALUE), NONE);
        due.is("count(largest)", x.count(Integer.MAX_VALUE), NONE);
        make(1, 3);
        drop(3);
        due.is("count(3), dropped but alive", x.count(3), 0);
        reckon(1);
        due.is("count(3), freed", x.count(3), NONE);
        make(1, 4);
        due.is("count(3), for a number is never used again", x.count(3), NONE);
        due.is("count(4)", x.count(4), 0);
    }

    private static void cells() {
        begin("promise 12");
        due.is("cell(0)", x.cell(0), NONE);
        due.is("cell(1)", x.cell(1), NONE);
        make(3, 1);
        make(2, 2);
        due.is("cell(1)", x.cell(1), 0);
        due.is("cell(2)", x.cell(2), 4);
        due.is("cell(0)", x.cell(0), NONE);
        due.is("cell(-1)", x.cell(-1), NONE);
        due.is("cell(3)", x.cell(3), NONE);
        due.is("cell(least)", x.cell(Integer.MIN_VALUE), NONE);
        due.is("cell(largest)", x.cell(Integer.MAX_VALUE), NONE);
        drop(2);
        due.is("cell(2), dropped but alive", x.cell(2), 4);
        reckon(1);
        due.is("cell(2), freed", x.cell(2), NONE);
    }

    private static void slots() {
        begin("promise 13");
        due.is("slot(1, 0)", x.slot(1, 0), NONE);
        make(4, 1);
        make(1, 2);
        store(0, 3, 1, true);
        store(1, 0, 0, true);
        due.is("slot(1, 0)", x.slot(1, 0), 0);
        due.is("slot(1, 3), at once", x.slot(1, 3), 2);
        due.is("slot(2, 0)", x.slot(2, 0), 1);
        due.is("slot(1, 4)", x.slot(1, 4), BAD);
        due.is("slot(1, -1)", x.slot(1, -1), BAD);
        due.is("slot(2, 1)", x.slot(2, 1), BAD);
        due.is("slot(1, least)", x.slot(1, Integer.MIN_VALUE), BAD);
        due.is("slot(1, largest)", x.slot(1, Integer.MAX_VALUE), BAD);
        due.is("slot(0, 0)", x.slot(0, 0), NONE);
        due.is("slot(3, 9), the first refusal", x.slot(3, 9), NONE);
        due.is("slot(-1, -1), the first refusal", x.slot(-1, -1), NONE);
    }

    private static void tableAndState() {
        begin("promises 14 and 15");
        make(1, 1);
        make(1, 2);
        due.is("table()", x.table(), 2);
        due.is("state(1), in the table", x.state(1), 1);
        store(0, 0, 1, true);
        due.is("state(1), in the table and noted", x.state(1), 3);
        due.is("state(2)", x.state(2), 1);
        due.is("table(), which only a reckoning brings up to date", x.table(), 2);
        reckon(0);
        due.is("state(1), not noted any more", x.state(1), 1);
        due.is("state(2), neither", x.state(2), 0);
        due.is("table()", x.table(), 1);
        store(1, 0, -1, true);
        due.is("state(2), noted alone", x.state(2), 2);
        store(0, 0, -1, true);
        due.is("state(2), held by nothing but counted", x.state(2), 2);
        reckon(0);
        due.is("state(2), in the table again", x.state(2), 1);
        due.is("table()", x.table(), 2);
        drop(2);
        due.is("table()", x.table(), 2);
        reckon(1);
        due.is("state(2), freed", x.state(2), 0);
        due.is("table()", x.table(), 1);
        for (int object : new int[] {Integer.MIN_VALUE, -1, 0, 3, Integer.MAX_VALUE}) {
            due.is("state(" + object + ")", x.state(object), 0);
        }
        makeNoted(3);
        due.is("state(3), noted and alive", x.state(3), 3);
        reckon(1);
        due.is("state(3), freed", x.state(3), 0);
    }

    private static void logAndEntries() {
        begin("promises 16 and 17");
        due.is("entry(0, -1)", x.entry(0, -1), BAD);
        make(4, 1);
        make(1, 2);
        store(0, 1, 1, true);
        store(0, 3, 0, true);
        reckon(0);
        due.is("log()", x.log(), 0);
        due.is("entry(0, -1), emptied", x.entry(0, -1), BAD);
        due.is("entry(0, 1), emptied", x.entry(0, 1), BAD);
        store(1, 0, 1, true);
        store(0, 1, -1, true);
        store(0, 3, 1, true);
        store(0, 0, 1, true);
        due.is("log()", x.log(), 2);
        due.is("entry(0, -1), in order", x.entry(0, -1), 2);
        due.is("entry(0, 0)", x.entry(0, 0), 0);
        due.is("entry(0, 1), which 2 has not", x.entry(0, 1), BAD);
        due.is("entry(1, -1)", x.entry(1, -1), 1);
        int[] before = {0, 2, 0, 1};
        for (int slot = 0; slot < 4; slot++) {
            due.is("entry(1, " + slot + ")", x.entry(1, slot), before[slot]);
        }
        due.is("entry(1, 4)", x.entry(1, 4), BAD);
        due.is("entry(1, -2)", x.entry(1, -2), BAD);
        due.is("entry(1, least)", x.entry(1, Integer.MIN_VALUE), BAD);
        due.is("entry(1, largest)", x.entry(1, Integer.MAX_VALUE), BAD);
        for (int k : new int[] {Integer.MIN_VALUE, -1, 2, 5, Integer.MAX_VALUE}) {
            due.is("entry(" + k + ", -1)", x.entry(k, -1), BAD);
            due.is("entry(" + k + ", 0)", x.entry(k, 0), BAD);
        }

        begin("promises 16 and 17, a full log");
        for (int number = 1; number <= 5; number++) {
            due.is("log()", x.log(), number - 1);
            makeNoted(number);
        }
        due.is("log()", x.log(), 5);
        due.is("entry(4, -1)", x.entry(4, -1), 5);
        due.is("entry(5, -1)", x.entry(5, -1), BAD);
        makeNoted(6);
        due.is("log()", x.log(), 1);
        due.is("entry(0, -1)", x.entry(0, -1), 6);
        due.is("entry(1, -1), emptied", x.entry(1, -1), BAD);
    }

    private static void reckoningsAreCounted() {
        begin("promise 19");
        reckon(0);
        reckon(0);
        due.is("reckonings() by reckon()", x.reckonings(), 2);
        for (int number = 1; number <= 5; number++) {
            makeNoted(number);
        }
        due.is("reckonings() before the log is full", x.reckonings(), 2);
        makeNoted(6);
        due.is("reckonings() by store()", x.reckonings(), 3);
        for (int number = 7; number <= 15; number++) {
            make(4, number);
            drop(number);
        }
        due.is("reckonings() while there is room", x.reckonings(), 3);
        make(4, 16);
        due.is("reckonings() by make()", x.reckonings(), 4);
    }

    private static void theExampleOfTheReadme() {
        begin("README.md");
        make(2, 1);
        make(1, 2);
        store(0, 0, 1, true);
        count(2, 0);
        reckon(0);
        count(2, 1);
        drop(2);
        reckon(0);
        drop(1);
        reckon(2);
    }
}
