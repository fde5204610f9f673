/**
 * Each sentence before the promises that names a boundary, most of them under "Terms", has a test
 * of its own here, in the document's order.
 */
public final class TermsEdgesTest extends Bench {
    public static void main(String[] args) {
        sentence("At most 512 calls", TermsEdgesTest::allOf512Calls);
        theHeap();
        theStackTheTableAndTheLog();
        aReckoning();
        toWrite();
        refusals();
        due.end();
    }

    private static void theHeap() {
        sentence("The heap has 48 cells, 0 .. 47", TermsEdgesTest::theHeapHas48Cells);
        sentence("0 .. 47: cell 0 is no neighbour of cell 47", TermsEdgesTest::theHeapIsNoRing);
        sentence("Numbers 1, 2, 3, .. in the order in which objects were made", TermsEdgesTest::numbersBeginAtOne);
        sentence("A number is never used again", TermsEdgesTest::numbersAreNeverUsedAgain);
        sentence("1 to 4 slots", TermsEdgesTest::oneToFourSlots);
        sentence("A slot holds an object or nothing (told as 0)", TermsEdgesTest::aSlotHoldsAnObjectOrNothing);
        sentence("As many neighbouring cells as it has slots and one more", TermsEdgesTest::oneCellMoreThanSlots);
        sentence("Cells in which no object lies are free", TermsEdgesTest::cellsWithoutAnObjectAreFree);
        sentence("It is alive until it is freed", TermsEdgesTest::aliveUntilFreed);
    }

    private static void theStackTheTableAndTheLog() {
        sentence("The stack has at most 8 places", TermsEdgesTest::theStackHasAtMost8Places);
        sentence("Place 0 is the lowest", TermsEdgesTest::place0IsTheLowest);
        sentence("Each place holds an object or nothing", TermsEdgesTest::aPlaceHoldsAnObjectOrNothing);
        sentence("Only a reckoning changes a count", TermsEdgesTest::onlyAReckoningChangesACount);
        sentence("An object enters the table when it is made", TermsEdgesTest::entersTheTableWhenMade);
        sentence("It enters the table when a reckoning brings its count to 0", TermsEdgesTest::entersTheTableAtCount0);
        sentence("The log holds at most 5 entries", TermsEdgesTest::theLogHoldsAtMost5Entries);
        sentence("The log's entries are in order", TermsEdgesTest::theLogIsInOrder);
        sentence("An entry: an object and what its slots held", TermsEdgesTest::anEntryTellsWhatAllSlotsHeld);
        sentence("An object in the log is noted", TermsEdgesTest::anObjectInTheLogIsNoted);
    }

    private static void aReckoning() {
        sentence("(1) for each entry, for each slot", TermsEdgesTest::eachEntryAndEachSlotCounts);
        sentence("(1) the object that the entry says it held 1 less", TermsEdgesTest::whatWasHeldGets1Less);
        sentence("(1) the object that the slot holds now 1 more", TermsEdgesTest::whatIsHeldNowGets1More);
        sentence("(1) if one", TermsEdgesTest::nothingIsNotCounted);
        sentence("(1) the log is empty then", TermsEdgesTest::theLogIsEmptyThen);
        sentence("(2) objects whose count is not 0 leave the table", TermsEdgesTest::countedObjectsLeaveTheTable);
        sentence("(2) objects alive whose count is 0 are in it", TermsEdgesTest::uncountedObjectsAreInTheTable);
        sentence("(3) as long as there is an object in the table", TermsEdgesTest::freesAsLongAsThereIsOne);
        sentence("(3) which no place of the stack holds", TermsEdgesTest::noPlaceOfTheStackHoldsIt);
        sentence("(3) for each of its slots 1 less", TermsEdgesTest::whatTheFreedHeldGets1Less);
        sentence("(3) if one", TermsEdgesTest::theFreedHeldNothing);
        sentence("(3) enters the table if that is 0 now", TermsEdgesTest::entersTheTableIf0Now);
        sentence("(3) its cells are free, and it leaves the table", TermsEdgesTest::theFreedLeaves);
        sentence("Which one is freed first makes no difference", TermsEdgesTest::freedInAnyOrder);
        sentence("Objects in a ring are not freed by this", TermsEdgesTest::ringsAreNotFreed);
    }

    private static void toWrite() {
        sentence("If the log has 5 entries there is a reckoning first", TermsEdgesTest::aFullLogIsReckonedFirst);
        sentence("The object is noted, with what its slots hold", TermsEdgesTest::notedWithWhatItsSlotsHold);
        sentence("An object that is noted needs no reckoning", TermsEdgesTest::notedAlreadyNeedsNoReckoning);
        sentence("Then, noted or not, the slot gets it", TermsEdgesTest::theSlotGetsIt);
    }

    private static void refusals() {
        sentence("The refusal named first: make, BAD before FULL", TermsEdgesTest::makeBadBeforeFull);
        sentence("The refusal named first: make, BAD before NONE", TermsEdgesTest::makeBadBeforeNone);
        sentence("The refusal named first: make, FULL before NONE", TermsEdgesTest::makeFullBeforeNone);
        sentence("The refusal named first: copy, BAD before FULL", TermsEdgesTest::copyBadBeforeFull);
        sentence("The refusal named first: load, BAD before FULL", TermsEdgesTest::loadBadBeforeFull);
        sentence("The refusal named first: slot, NONE before BAD", TermsEdgesTest::slotNoneBeforeBad);
        sentence("A refused call changes nothing: make", TermsEdgesTest::aRefusedMake);
        sentence("But for the reckoning that make() may do", TermsEdgesTest::aMakeRefusedAfterItsReckoning);
        sentence("A refused call changes nothing: copy", TermsEdgesTest::aRefusedCopy);
        sentence("A refused call changes nothing: load", TermsEdgesTest::aRefusedLoad);
        sentence("A refused call changes nothing: store", TermsEdgesTest::aRefusedStore);
        sentence("A refused call changes nothing: drop", TermsEdgesTest::aRefusedDrop);
        sentence("A refused call changes nothing: questions", TermsEdgesTest::aRefusedQuestion);
    }

    private static void allOf512Calls() {
        for (int number = 1; number <= 256; number++) {
            make(1, number);
            drop(number);
        }

        fresh();
        for (int call = 1; call <= 511; call++) {
            reckon(0);
        }
        reckonings(511);
    }

    private static void theHeapHas48Cells() {
        free(48);
        nineOfFiveCellsUnheld();
        make(2, 10);
        cell(10, 45);
        reckonings(0);
        free(0);

        fresh();
        nineOfFiveCellsUnheld();
        make(3, 10);
        reckonings(1);
        cell(10, 0);
    }

    private static void nineOfFiveCellsUnheld() {
        for (int number = 1; number <= 9; number++) {
            makeUnheld(4, number);
        }
    }

    private static void theHeapIsNoRing() {
        onlyBothEndsOfTheHeapAreFree();
        free(4);
        make(3, NONE);
        make(2, NONE);
        make(1, 12);
        cell(12, 0);
        make(1, 13);
        cell(13, 46);
    }

    /** Leaves 0, 1, 46 and 47 free, and all between them in use for ever. */
    private static void onlyBothEndsOfTheHeapAreFree() {
        make(1, 1);
        for (int number = 2; number <= 9; number++) {
            makeForEver(4, number);
        }
        makeForEver(3, 10);
        makeUnheld(1, 11);
        drop(1);
        reckon(2);
    }

    private static void numbersBeginAtOne() {
        make(4, 1);
        make(1, 2);
        make(3, 3);
        make(0, BAD);
        make(5, BAD);
        make(2, 4);
        fillStack();
        make(1, FULL);
        drop(1);
        make(1, 5);
    }

    private static void numbersAreNeverUsedAgain() {
        makeUnheld(1, 1);
        reckon(1);
        makeUnheld(1, 2);
        makeUnheld(1, 3);
        reckon(2);
        make(1, 4);
        cell(4, 0);
        cell(1, NONE);
        cell(2, NONE);
        cell(3, NONE);
    }

    private static void oneToFourSlots() {
        make(0, BAD);
        make(1, 1);
        slot(1, 0, 0);
        slot(1, 1, BAD);
        make(4, 2);
        slot(2, 3, 0);
        slot(2, 4, BAD);
        make(5, BAD);
        alive(2);
    }

    private static void aSlotHoldsAnObjectOrNothing() {
        make(2, 1);
        slot(1, 0, 0);
        slot(1, 1, 0);
        store(0, 1, 0, true);
        slot(1, 0, 0);
        slot(1, 1, 1);
        store(0, 1, -1, true);
        slot(1, 1, 0);
    }

    private static void oneCellMoreThanSlots() {
        make(1, 1);
        free(46);
        make(2, 2);
        cell(2, 2);
        free(43);
        make(3, 3);
        cell(3, 5);
        free(39);
        make(4, 4);
        cell(4, 9);
        free(34);
        make(1, 5);
        cell(5, 14);
    }

    private static void cellsWithoutAnObjectAreFree() {
        free(48);
        for (int number = 1; number <= 24; number++) {
            makeUnheld(1, number);
            free(48 - 2 * number);
        }
        reckon(24);
        free(48);
    }

    private static void aliveUntilFreed() {
        makeUnheld(2, 1);
        alive(1);
        cell(1, 0);
        count(1, 0);
        slot(1, 1, 0);
        reckon(1);
        alive(0);
        cell(1, NONE);
        count(1, NONE);
        slot(1, 1, NONE);
    }

    private static void theStackHasAtMost8Places() {
        for (int number = 1; number <= 8; number++) {
            make(1, number);
        }
        make(1, FULL);
        stack(8);
        held(7, 8);

        fresh();
        make(1, 1);
        for (int place = 1; place < 8; place++) {
            copy(0, 1);
        }
        copy(0, FULL);
        stack(8);

        fresh();
        make(1, 1);
        for (int place = 1; place < 8; place++) {
            load(0, 0, 0);
        }
        load(0, 0, FULL);
        stack(8);
    }

    private static void place0IsTheLowest() {
        make(1, 1);
        make(1, 2);
        load(0, 0, 0);
        make(1, 3);
        held(0, 1);
        held(1, 2);
        held(2, 0);
        held(3, 3);
        drop(3);
        drop(0);
        drop(2);
        held(0, 1);
        held(1, BAD);
    }

    private static void aPlaceHoldsAnObjectOrNothing() {
        make(1, 1);
        load(0, 0, 0);
        stack(2);
        held(1, 0);
        alive(1);
        drop(0);
        copy(0, 1);
        held(1, 1);
        drop(1);
        drop(1);
    }

    private static void onlyAReckoningChangesACount() {
        make(2, 1);
        make(1, 2);
        store(0, 0, 1, true);
        count(2, 0);
        reckon(0);
        count(2, 1);
        store(0, 1, 1, true);
        count(2, 1);
        store(0, 0, -1, true);
        store(0, 1, -1, true);
        count(2, 1);
        copy(1, 2);
        count(2, 1);
        load(0, 0, 0);
        make(1, 3);
        dropAll();
        count(2, 1);
        reckon(3);
        count(2, NONE);
    }

    private static void entersTheTableWhenMade() {
        table(0);
        make(1, 1);
        table(1);
        state(1, 1);
        for (int number = 2; number <= 24; number++) {
            makeUnheld(1, number);
            state(number, 1);
        }
        table(24);
    }

    private static void entersTheTableAtCount0() {
        make(2, 1);
        make(1, 2);
        store(0, 0, 1, true);
        store(0, 1, 1, true);
        reckon(0);
        state(2, 0);
        store(0, 0, -1, true);
        reckon(0);
        count(2, 1);
        state(2, 0);
        store(0, 1, -1, true);
        state(2, 0);
        reckon(0);
        count(2, 0);
        state(2, 1);
    }

    private static void theLogHoldsAtMost5Entries() {
        for (int number = 1; number <= 5; number++) {
            makeNoted(number);
            log(number);
        }
        entry(4, -1, 5);
        reckonings(0);
        makeNoted(6);
        log(1);
        reckonings(1);
        entry(0, -1, 6);
    }

    private static void theLogIsInOrder() {
        for (int number = 1; number <= 5; number++) {
            make(1, number);
        }
        int[] order = {3, 5, 1, 4, 2};
        for (int number : order) {
            store(number - 1, 0, -1, true);
        }
        store(4, 0, 0, true);
        for (int k = 0; k < 5; k++) {
            entry(k, -1, order[k]);
        }
    }

    private static void anEntryTellsWhatAllSlotsHeld() {
        make(4, 1);
        make(1, 2);
        store(0, 0, 0, true);
        store(0, 3, 1, true);
        reckon(0);
        store(0, 3, -1, true);
        store(0, 0, 1, true);
        store(0, 1, 1, true);
        entry(0, -1, 1);
        entry(0, 0, 1);
        entry(0, 1, 0);
        entry(0, 2, 0);
        entry(0, 3, 2);
    }

    private static void anObjectInTheLogIsNoted() {
        make(2, 1);
        make(1, 2);
        state(1, 1);
        store(0, 0, 1, true);
        state(1, 3);
        state(2, 1);
        store(0, 1, 1, true);
        log(1);
        reckon(0);
        state(1, 1);
    }

    private static void eachEntryAndEachSlotCounts() {
        for (int number = 1; number <= 5; number++) {
            make(4, number);
        }
        make(1, 6);
        for (int place = 0; place < 5; place++) {
            for (int slot = 0; slot < 4; slot++) {
                store(place, slot, 5, true);
            }
        }
        log(5);
        reckon(0);
        count(6, 20);
    }

    private static void whatWasHeldGets1Less() {
        make(4, 1);
        make(1, 2);
        for (int slot = 0; slot < 4; slot++) {
            store(0, slot, 1, true);
        }
        reckon(0);
        count(2, 4);
        store(0, 0, -1, true);
        reckon(0);
        count(2, 3);
        store(0, 3, -1, true);
        store(0, 1, 0, true);
        reckon(0);
        count(2, 1);
        store(0, 2, -1, true);
        reckon(0);
        count(2, 0);
    }

    private static void whatIsHeldNowGets1More() {
        make(1, 1);
        make(1, 2);
        make(1, 3);
        store(0, 0, 1, true);
        store(0, 0, 2, true);
        reckon(0);
        count(2, 0);
        count(3, 1);
        store(0, 0, 1, true);
        store(0, 0, 2, true);
        reckon(0);
        count(2, 0);
        count(3, 1);
    }

    private static void nothingIsNotCounted() {
        make(1, 1);
        make(1, 2);
        store(0, 0, -1, true);
        reckon(0);
        count(1, 0);
        count(2, 0);
        count(0, NONE);
        store(0, 0, 1, true);
        reckon(0);
        count(1, 0);
        count(2, 1);
        store(0, 0, -1, true);
        reckon(0);
        count(1, 0);
        count(2, 0);
        table(2);
    }

    private static void theLogIsEmptyThen() {
        reckon(0);
        log(0);
        for (int number = 1; number <= 5; number++) {
            makeNoted(number);
        }
        log(5);
        reckon(5);
        log(0);
        entry(0, -1, BAD);
        entry(4, -1, BAD);
    }

    private static void countedObjectsLeaveTheTable() {
        make(1, 1);
        store(0, 0, 0, true);
        table(1);
        state(1, 3);
        reckon(0);
        table(0);
        state(1, 0);
    }

    private static void uncountedObjectsAreInTheTable() {
        make(1, 1);
        reckon(0);
        state(1, 1);
        store(0, 0, 0, true);
        reckon(0);
        state(1, 0);
        store(0, 0, -1, true);
        reckon(0);
        state(1, 1);
        table(1);
    }

    private static void freesAsLongAsThereIsOne() {
        reckon(0);
        for (int number = 1; number <= 24; number++) {
            makeUnheld(1, number);
        }
        reckon(24);
        alive(0);
        reckon(0);
    }

    private static void noPlaceOfTheStackHoldsIt() {
        for (int number = 1; number <= 8; number++) {
            make(1, number);
        }
        reckon(0);
        alive(8);
        drop(8);
        reckon(1);
        cell(8, NONE);
        dropDownTo(1);
        reckon(6);
        cell(1, 0);
        copy(0, 1);
        drop(1);
        reckon(0);
        cell(1, 0);
        drop(1);
        reckon(1);
        cell(1, NONE);
    }

    private static void whatTheFreedHeldGets1Less() {
        make(1, 1);
        make(4, 2);
        for (int slot = 0; slot < 4; slot++) {
            store(1, slot, 0, true);
        }
        store(0, 0, 0, true);
        reckon(0);
        count(1, 5);
        drop(2);
        reckon(1);
        count(1, 1);
    }

    private static void theFreedHeldNothing() {
        make(1, 1);
        makeUnheld(4, 2);
        reckon(1);
        count(1, 0);
        state(1, 1);
        table(1);
        free(46);
    }

    private static void entersTheTableIf0Now() {
        make(2, 1);
        make(2, 2);
        make(2, 3);
        store(2, 0, 0, true);
        store(2, 1, 1, true);
        store(0, 1, 1, true);
        reckon(0);
        state(1, 0);
        state(2, 0);
        drop(3);
        reckon(1);
        count(1, 0);
        state(1, 1);
        count(2, 1);
        state(2, 0);
        table(1);
    }

    private static void theFreedLeaves() {
        make(1, 1);
        makeUnheld(4, 2);
        make(1, 3);
        table(3);
        free(39);
        reckon(1);
        table(2);
        state(2, 0);
        free(44);
        make(4, 4);
        cell(4, 2);
        make(1, 5);
        cell(5, 9);
    }

    private static void freedInAnyOrder() {
        chainWhoseYoungerHoldsTheOlder();
        alive(24);
        drop(1);
        reckon(24);
        free(48);
        table(0);

        fresh();
        chainWhoseOlderHoldsTheYounger();
        alive(23);
        drop(1);
        reckon(23);
        free(48);
        table(0);
    }

    /** Fills the heap; object 1 in place 0 holds the youngest, and each holds the one before it. */
    private static void chainWhoseYoungerHoldsTheOlder() {
        make(1, 1);
        for (int number = 2; number <= 24; number++) {
            make(1, number);
            x.load(0, 0);
            store(1, 0, 2, true);
            store(0, 0, 1, true);
            dropDownTo(1);
        }
    }

    /** Leaves one cell; object 1 in place 0 holds the oldest, and also the youngest, to reach it. */
    private static void chainWhoseOlderHoldsTheYounger() {
        make(2, 1);
        make(1, 2);
        store(0, 0, 1, true);
        store(0, 1, 1, true);
        drop(2);
        for (int number = 3; number <= 23; number++) {
            make(1, number);
            load(0, 1, number - 1);
            store(2, 0, 1, true);
            store(0, 1, 1, true);
            dropDownTo(1);
        }
    }

    private static void ringsAreNotFreed() {
        makeForEver(1, 1);
        reckon(0);
        count(1, 1);

        fresh();
        make(1, 1);
        make(1, 2);
        store(0, 0, 1, true);
        store(1, 0, 0, true);
        dropAll();
        reckon(0);
        alive(2);

        fresh();
        for (int number = 1; number <= 8; number++) {
            make(1, number);
        }
        for (int place = 0; place < 8; place++) {
            store(place, 0, (place + 1) % 8, true);
        }
        dropAll();
        reckon(0);
        alive(8);
        table(0);
    }

    private static void aFullLogIsReckonedFirst() {
        make(1, 1);
        for (int number = 2; number <= 5; number++) {
            makeNoted(number);
        }
        log(4);
        store(0, 0, 0, true);
        reckonings(0);
        log(5);

        fresh();
        make(1, 1);
        for (int number = 2; number <= 6; number++) {
            makeNoted(number);
        }
        store(0, 0, 0, true);
        reckonings(1);
        alive(1);
        log(1);
        entry(0, -1, 1);
        count(1, 0);
        state(1, 3);
        reckon(0);
        count(1, 1);
    }

    private static void notedWithWhatItsSlotsHold() {
        make(2, 1);
        store(0, 1, 0, true);
        reckon(0);
        for (int number = 2; number <= 6; number++) {
            makeNoted(number);
        }
        store(0, 1, -1, true);
        store(0, 0, 0, true);
        log(1);
        entry(0, -1, 1);
        entry(0, 0, 0);
        entry(0, 1, 1);
    }

    private static void notedAlreadyNeedsNoReckoning() {
        make(2, 1);
        store(0, 0, 0, true);
        for (int number = 2; number <= 5; number++) {
            makeNoted(number);
        }
        log(5);
        store(0, 1, 0, true);
        reckonings(0);
        log(5);
        slot(1, 1, 1);
        entry(0, 0, 0);
        entry(0, 1, 0);
        alive(5);
    }

    private static void theSlotGetsIt() {
        make(4, 1);
        make(1, 2);
        store(0, 0, 1, true);
        slot(1, 0, 2);
        store(0, 0, 0, true);
        slot(1, 0, 1);
        store(0, 3, 1, true);
        slot(1, 3, 2);
        store(0, 0, -1, true);
        slot(1, 0, 0);
        slot(1, 1, 0);
        slot(1, 2, 0);
        slot(2, 0, 0);
    }

    private static void makeBadBeforeFull() {
        make(1, 1);
        fillStack();
        make(0, BAD);
        make(5, BAD);
        make(4, FULL);
    }

    private static void makeBadBeforeNone() {
        aHeapThatIsFullForEver();
        make(0, BAD);
        make(5, BAD);
        make(4, NONE);
    }

    private static void makeFullBeforeNone() {
        aHeapAndAStackThatAreFull();
        make(1, FULL);
        make(4, FULL);
        drop(0);
        make(1, NONE);
    }

    private static void aHeapThatIsFullForEver() {
        for (int number = 1; number <= 24; number++) {
            makeForEver(1, number);
        }
    }

    private static void aHeapAndAStackThatAreFull() {
        make(1, 1);
        for (int place = 1; place < 8; place++) {
            load(0, 0, 0);
        }
        for (int number = 2; number <= 24; number++) {
            drop(0);
            makeForEver(1, number);
            load(0, 0, 0);
        }
    }

    private static void copyBadBeforeFull() {
        make(1, 1);
        fillStack();
        copy(8, BAD);
        copy(-1, BAD);
        copy(7, FULL);
    }

    private static void loadBadBeforeFull() {
        make(1, 1);
        load(0, 0, 0);
        fillStack();
        load(8, 0, BAD);
        load(-1, 0, BAD);
        load(1, 0, BAD);
        load(0, 1, BAD);
        load(0, -1, BAD);
        load(0, 0, FULL);
    }

    private static void slotNoneBeforeBad() {
        makeUnheld(1, 1);
        slot(1, 1, BAD);
        slot(1, -1, BAD);
        reckon(1);
        slot(1, 1, NONE);
        slot(1, -1, NONE);
        slot(2, 4, NONE);
        slot(0, 4, NONE);
    }

    /** Of all that there is some: nothing in a place, a full log, counts, objects to be freed. */
    private static void aBitOfAll() {
        make(4, 1);
        make(1, 2);
        load(0, 3, 0);
        store(0, 0, 1, true);
        store(0, 2, 1, true);
        reckon(0);
        for (int number = 3; number <= 6; number++) {
            makeNoted(number);
        }
        store(0, 2, 0, true);
        log(5);
    }

    private static void aBitOfAllWithAFullStack() {
        aBitOfAll();
        fillStack();
    }

    private static void aRefusedMake() {
        refused(TermsEdgesTest::aBitOfAll, () -> make(0, BAD));
        refused(TermsEdgesTest::aBitOfAll, () -> make(5, BAD));
        refused(TermsEdgesTest::aBitOfAllWithAFullStack, () -> make(1, FULL));
        refused(TermsEdgesTest::aHeapAndAStackThatAreFull, () -> make(1, FULL));
        refused(TermsEdgesTest::aHeapThatIsFullForEver, () -> make(5, BAD));
    }

    private static void aMakeRefusedAfterItsReckoning() {
        same(TermsEdgesTest::aHeapThatIsFullForEver, () -> make(1, NONE), () -> reckon(0));
        same(TermsEdgesTest::fourFreeCellsAtMostAreNeighbours, () -> make(4, NONE), () -> reckon(6));
        same(TermsEdgesTest::onlyBothEndsOfTheHeapAreFree, () -> make(2, NONE), () -> reckon(0));
    }

    /** Each second object can be freed, but those between lie on; one of them has been noted. */
    private static void fourFreeCellsAtMostAreNeighbours() {
        for (int number = 1; number <= 12; number++) {
            make(3, number);
            if (number % 2 == 1) {
                drop(number);
            }
        }
        store(0, 0, 1, true);
    }

    private static void aRefusedCopy() {
        refused(TermsEdgesTest::aBitOfAll, () -> copy(3, BAD));
        refused(TermsEdgesTest::aBitOfAll, () -> copy(-1, BAD));
        refused(TermsEdgesTest::aBitOfAllWithAFullStack, () -> copy(0, FULL));
        refused(TermsEdgesTest::aBitOfAllWithAFullStack, () -> copy(8, BAD));
    }

    private static void aRefusedLoad() {
        refused(TermsEdgesTest::aBitOfAll, () -> load(3, 0, BAD));
        refused(TermsEdgesTest::aBitOfAll, () -> load(-1, 0, BAD));
        refused(TermsEdgesTest::aBitOfAll, () -> load(2, 0, BAD));
        refused(TermsEdgesTest::aBitOfAll, () -> load(1, 1, BAD));
        refused(TermsEdgesTest::aBitOfAll, () -> load(0, -1, BAD));
        refused(TermsEdgesTest::aBitOfAllWithAFullStack, () -> load(0, 0, FULL));
        refused(TermsEdgesTest::aBitOfAllWithAFullStack, () -> load(0, 4, BAD));
    }

    /** Object 2 is not noted and the log is full, so a write that was not refused would reckon. */
    private static void aRefusedStore() {
        refused(TermsEdgesTest::aBitOfAll, () -> store(3, 0, 0, false));
        refused(TermsEdgesTest::aBitOfAll, () -> store(-1, 0, 0, false));
        refused(TermsEdgesTest::aBitOfAll, () -> store(2, 0, 0, false));
        refused(TermsEdgesTest::aBitOfAll, () -> store(1, 1, 0, false));
        refused(TermsEdgesTest::aBitOfAll, () -> store(1, -1, 0, false));
        refused(TermsEdgesTest::aBitOfAll, () -> store(1, 0, 3, false));
        refused(TermsEdgesTest::aBitOfAll, () -> store(1, 0, -2, false));
        refused(TermsEdgesTest::aBitOfAll, () -> store(0, 0, 3, false));
        refused(TermsEdgesTest::aBitOfAll, () -> store(0, 4, -1, false));
    }

    private static void aRefusedDrop() {
        refused(() -> { }, () -> drop(BAD));
        refused(TermsEdgesTest::fiveNotedAndNoPlace, () -> drop(BAD));
    }

    private static void fiveNotedAndNoPlace() {
        for (int number = 1; number <= 5; number++) {
            makeNoted(number);
        }
    }

    private static void aRefusedQuestion() {
        refused(TermsEdgesTest::aBitOfAll, () -> held(3, BAD));
        refused(TermsEdgesTest::aBitOfAll, () -> count(7, NONE));
        refused(TermsEdgesTest::aBitOfAll, () -> cell(7, NONE));
        refused(TermsEdgesTest::aBitOfAll, () -> slot(7, 0, NONE));
        refused(TermsEdgesTest::aBitOfAll, () -> slot(2, 1, BAD));
        refused(TermsEdgesTest::aBitOfAll, () -> state(7, 0));
        refused(TermsEdgesTest::aBitOfAll, () -> entry(5, -1, BAD));
        refused(TermsEdgesTest::aBitOfAll, () -> entry(0, 1, BAD));
    }
}
