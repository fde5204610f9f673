/**
 * Each sentence of the promises 1 to 19 that names a boundary has a test of its own here, in the
 * document's order.
 */
public final class PromiseEdgesTest extends Bench {
    /** Too small, too large, and where one more would wrap around. */
    private static final int[] NEVER_A_SLOT = {LEAST, -2, -1, 4, 5, 48, LARGEST - 1, LARGEST};

    public static void main(String[] args) {
        newObjectAndMake();
        copyAndLoad();
        storeAndDrop();
        reckonStackAndHeld();
        whatIsToldOfObjects();
        whatIsToldOfTableAndLog();
        whatIsToldOfCellsAndReckonings();
        due.end();
    }

    private static void newObjectAndMake() {
        sentence("1: no objects", PromiseEdgesTest::noObjects);
        sentence("1: an empty stack", PromiseEdgesTest::anEmptyStack);
        sentence("1: an empty table", PromiseEdgesTest::anEmptyTable);
        sentence("1: an empty log", PromiseEdgesTest::anEmptyLog);
        sentence("1: a new object, whatever another has", PromiseEdgesTest::newBesideAnother);
        sentence("2: makes an object with this many slots", PromiseEdgesTest::makesThisManySlots);
        sentence("2: which hold nothing, count 0", PromiseEdgesTest::makesOverWhatLayThere);
        sentence("2: and pushes it on the stack: its number", PromiseEdgesTest::makePushes);
        sentence("2: the lowest free cells that are neighbours and enough", PromiseEdgesTest::makeTakesTheLowest);
        sentence("2: when there are none, there is a reckoning", PromiseEdgesTest::makeReckonsOnlyWithoutRoom);
        sentence("2: and then it lies in the lowest such ones", PromiseEdgesTest::makeTakesTheLowestThen);
        sentence("2: BAD: slots is not 1 .. 4", PromiseEdgesTest::makeBad);
        sentence("2: FULL: the stack has 8 places", PromiseEdgesTest::makeFull);
        sentence("2: NONE: no such cells after the reckoning either", PromiseEdgesTest::makeNone);
    }

    private static void copyAndLoad() {
        sentence("3: pushes what a place holds: its number, or 0", PromiseEdgesTest::copiesANumberOr0);
        sentence("3: BAD: there is no such place", PromiseEdgesTest::copyBad);
        sentence("3: FULL: the stack has 8", PromiseEdgesTest::copyFull);
        sentence("4: pushes what a slot holds: its number, or 0", PromiseEdgesTest::loadsANumberOr0);
        sentence("4: BAD: there is no such place", PromiseEdgesTest::loadFromNoPlace);
        sentence("4: BAD: it holds nothing", PromiseEdgesTest::loadFromNothing);
        sentence("4: BAD: the object has no such slot", PromiseEdgesTest::loadFromNoSlot);
        sentence("4: slots count from 0", PromiseEdgesTest::slotsCountFrom0);
        sentence("4: FULL: the stack has 8", PromiseEdgesTest::loadFull);
    }

    private static void storeAndDrop() {
        sentence("5: writes what place from holds", PromiseEdgesTest::storesFromAnyPlace);
        sentence("5: from -1: nothing", PromiseEdgesTest::storesNothing);
        sentence("5: false when there is no such place", PromiseEdgesTest::storeAtNoPlace);
        sentence("5: false when it holds nothing", PromiseEdgesTest::storeAtNothing);
        sentence("5: false when the object has no such slot", PromiseEdgesTest::storeAtNoSlot);
        sentence("5: false when from is neither -1 nor a place", PromiseEdgesTest::storeFromNoPlace);
        sentence("6: takes the highest place off: the number, or 0", PromiseEdgesTest::dropsTheHighest);
        sentence("6: BAD: there is none", PromiseEdgesTest::dropBad);
    }

    private static void reckonStackAndHeld() {
        sentence("7: how many objects were freed by it", PromiseEdgesTest::reckonTellsHowMany);
        sentence("8: how many places the stack has", PromiseEdgesTest::stackFrom0To8);
        sentence("9: what a place holds: a number, or 0", PromiseEdgesTest::heldANumberOr0);
        sentence("9: BAD: there is no such place", PromiseEdgesTest::heldBad);
    }

    private static void whatIsToldOfObjects() {
        sentence("10: how many objects are alive", PromiseEdgesTest::aliveFrom0To24);
        sentence("11: the count of an object", PromiseEdgesTest::countFrom0Up);
        sentence("11: NONE: it is not alive", PromiseEdgesTest::countOfTheFreed);
        sentence("11: or there never was one", PromiseEdgesTest::countOfWhatNeverWas);
        sentence("12: the first cell", PromiseEdgesTest::cellFrom0To46);
        sentence("12: NONE: it is not alive", PromiseEdgesTest::cellNone);
        sentence("13: what a slot holds: a number, or 0", PromiseEdgesTest::slotANumberOr0);
        sentence("13: NONE: it is not alive", PromiseEdgesTest::slotNone);
        sentence("13: BAD: it has no such slot", PromiseEdgesTest::slotBad);
    }

    private static void whatIsToldOfTableAndLog() {
        sentence("14: how many objects are in the table", PromiseEdgesTest::tableFrom0To24);
        sentence("15: in the table (1) and noted (2), added up", PromiseEdgesTest::stateAddedUp);
        sentence("15: 0 for neither", PromiseEdgesTest::stateNeither);
        sentence("15: 0 when it is not alive", PromiseEdgesTest::stateOfWhatIsNotAlive);
        sentence("16: how many entries the log has", PromiseEdgesTest::logFrom0To5);
        sentence("17: the object, for slot -1", PromiseEdgesTest::entryObject);
        sentence("17: what it says the slot held: a number, or 0", PromiseEdgesTest::entryANumberOr0);
        sentence("17: BAD: there is no such entry", PromiseEdgesTest::entryThatIsNotThere);
        sentence("17: BAD: the object has no such slot", PromiseEdgesTest::entryWithoutSuchASlot);
    }

    private static void whatIsToldOfCellsAndReckonings() {
        sentence("18: how many cells are free", PromiseEdgesTest::freeFrom48To0);
        sentence("19: how many reckonings there were", PromiseEdgesTest::reckoningsOfAllKinds);
        sentence("19: a refused call does none, but for make's NONE", PromiseEdgesTest::reckoningsOfRefusedCalls);
    }

    private static void noObjects() {
        alive(0);
        free(48);
        count(1, NONE);
        cell(1, NONE);
        slot(1, 0, NONE);
        state(1, 0);
        reckon(0);
        make(4, 1);
        fresh();
        alive(0);
        make(1, 1);
    }

    private static void anEmptyStack() {
        stack(0);
        held(0, BAD);
        copy(0, BAD);
        load(0, 0, BAD);
        store(0, 0, 0, false);
        store(0, 0, -1, false);
        drop(BAD);
    }

    private static void anEmptyTable() {
        table(0);
        reckon(0);
        table(0);
    }

    private static void anEmptyLog() {
        log(0);
        entry(0, -1, BAD);
        entry(0, 0, BAD);
        reckonings(0);
    }

    private static void newBesideAnother() {
        LazyCounts older = x;
        make(1, 1);
        store(0, 0, 0, true);
        makeUnheld(4, 2);
        fresh();
        noObjects();
        fresh();
        anEmptyStack();
        anEmptyTable();
        reckonings(1);
        x = older;
        reckonings(0);
        stack(1);
        log(1);
        alive(2);
        make(1, 3);
        cell(3, 7);
    }

    private static void makesThisManySlots() {
        for (int slots = 1; slots <= 4; slots++) {
            make(slots, slots);
            slot(slots, slots - 1, 0);
            slot(slots, slots, BAD);
        }
    }

    /** First cells and slots of new objects come to lie where slots of an old one held another. */
    private static void makesOverWhatLayThere() {
        make(4, 1);
        make(1, 2);
        for (int slot = 0; slot < 4; slot++) {
            store(0, slot, 1, true);
        }
        dropAll();
        reckon(2);
        for (int number = 3; number <= 5; number++) {
            make(1, number);
            cell(number, 2 * (number - 3));
            slot(number, 0, 0);
            count(number, 0);
            state(number, 1);
        }
    }

    private static void makePushes() {
        for (int number = 1; number <= 8; number++) {
            make(1, number);
            stack(number);
            held(number - 1, number);
            held(number, BAD);
        }
    }

    private static void makeTakesTheLowest() {
        holesOfThreeAndOfFive();
        make(4, 6);
        cell(6, 5);
        make(2, 7);
        cell(7, 0);

        fresh();
        holesOfThreeAndOfFive();
        make(3, 6);
        cell(6, 5);
        make(1, 7);
        cell(7, 0);
        make(1, 8);
        cell(8, 12);
        reckonings(1);
    }

    /** Free cells: 0 .. 2, 5 .. 9 and 12 .. 47. */
    private static void holesOfThreeAndOfFive() {
        make(2, 1);
        makeForEver(1, 2);
        make(4, 3);
        makeForEver(1, 4);
        make(1, 5);
        dropAll();
        reckon(3);
        free(44);
    }

    private static void makeReckonsOnlyWithoutRoom() {
        for (int number = 1; number <= 24; number++) {
            makeUnheld(1, number);
        }
        reckonings(0);
        make(1, 25);
        reckonings(1);
        alive(1);

        fresh();
        for (int number = 1; number <= 9; number++) {
            makeUnheld(4, number);
        }
        make(2, 10);
        reckonings(0);
        alive(10);
        make(1, 11);
        reckonings(1);
        alive(2);
    }

    private static void makeTakesTheLowestThen() {
        makeForEver(1, 1);
        for (int number = 2; number <= 10; number++) {
            makeUnheld(4, number);
        }
        free(1);
        make(4, 11);
        cell(11, 2);
        cell(10, NONE);
        free(41);

        fresh();
        aFullHeapWithAHoleOfThreeToCome();
        make(3, 12);
        cell(12, 5);
        make(2, 13);
        cell(13, 0);
        reckonings(1);

        fresh();
        aFullHeapWithAHoleOfThreeToCome();
        make(2, 12);
        cell(12, 0);
        reckonings(1);
    }

    /** A reckoning then leaves 0 .. 2 and 5 .. 47 free. */
    private static void aFullHeapWithAHoleOfThreeToCome() {
        makeUnheld(2, 1);
        makeForEver(1, 2);
        for (int number = 3; number <= 10; number++) {
            makeUnheld(4, number);
        }
        makeUnheld(2, 11);
        free(0);
    }

    private static void makeBad() {
        for (int slots : new int[] {LEAST, LEAST + 1, -4, -1, 0, 5, 47, 48, LARGEST - 1, LARGEST}) {
            make(slots, BAD);
        }
        alive(0);
        stack(0);
        reckonings(0);
        make(1, 1);
        make(4, 2);
    }

    private static void makeFull() {
        make(1, 1);
        for (int place = 1; place < 7; place++) {
            copy(0, 1);
        }
        make(1, 2);
        make(1, FULL);
        make(4, FULL);
        alive(2);
        reckonings(0);
        drop(2);
        make(4, 3);
    }

    private static void makeNone() {
        for (int number = 1; number <= 23; number++) {
            makeForEver(1, number);
        }
        int before = x.reckonings();
        make(2, NONE);
        due.is("reckonings() more", x.reckonings() - before, 1);
        make(1, 24);
        due.is("reckonings() more with room", x.reckonings() - before, 1);
        free(0);
        make(1, NONE);
        due.is("reckonings() more", x.reckonings() - before, 2);
        make(1, NONE);
        due.is("reckonings() more", x.reckonings() - before, 3);
        stack(1);
        alive(24);
        drop(24);
        make(1, 25);
        cell(25, 46);
    }

    private static void copiesANumberOr0() {
        make(1, 1);
        load(0, 0, 0);
        copy(0, 1);
        held(2, 1);
        copy(1, 0);
        held(3, 0);
        copy(3, 0);
        held(4, 0);
        copy(2, 1);
        held(5, 1);
    }

    private static void copyBad() {
        copy(0, BAD);
        make(1, 1);
        copy(1, BAD);
        for (int place : NEVER_A_PLACE) {
            copy(place, BAD);
        }
        copy(0, 1);
        drop(1);
        copy(1, BAD);
        stack(1);
    }

    private static void copyFull() {
        make(1, 1);
        for (int place = 1; place < 8; place++) {
            copy(place - 1, 1);
        }
        copy(0, FULL);
        copy(7, FULL);
        drop(1);
        copy(6, 1);
        copy(6, FULL);
    }

    private static void loadsANumberOr0() {
        make(4, 1);
        make(1, 2);
        store(0, 0, 1, true);
        store(0, 3, 0, true);
        load(0, 0, 2);
        held(2, 2);
        load(0, 1, 0);
        held(3, 0);
        load(0, 3, 1);
        held(4, 1);
        load(4, 3, 1);
        load(2, 0, 0);
        stack(7);
    }

    private static void loadFromNoPlace() {
        load(0, 0, BAD);
        make(1, 1);
        load(1, 0, BAD);
        for (int place : NEVER_A_PLACE) {
            load(place, 0, BAD);
        }
        copy(0, 1);
        drop(1);
        load(1, 0, BAD);
        stack(1);
    }

    private static void loadFromNothing() {
        make(1, 1);
        load(0, 0, 0);
        load(1, 0, BAD);
        load(1, 1, BAD);
        load(1, -1, BAD);
        stack(2);
    }

    private static void loadFromNoSlot() {
        for (int slots = 1; slots <= 4; slots++) {
            make(slots, slots);
        }
        for (int place = 0; place < 4; place++) {
            load(place, place + 1, BAD);
            for (int slot : NEVER_A_SLOT) {
                load(place, slot, BAD);
            }
        }
        stack(4);
    }

    private static void slotsCountFrom0() {
        make(2, 1);
        store(0, 0, 0, true);
        load(0, 0, 1);
        load(0, 1, 0);
        load(0, 2, BAD);
    }

    private static void loadFull() {
        make(1, 1);
        for (int place = 1; place < 7; place++) {
            copy(0, 1);
        }
        load(6, 0, 0);
        load(0, 0, FULL);
        load(6, 0, FULL);
        drop(0);
        load(0, 0, 0);
    }

    private static void storesFromAnyPlace() {
        make(4, 1);
        for (int number = 2; number <= 7; number++) {
            make(1, number);
        }
        load(0, 0, 0);
        store(0, 0, 0, true);
        slot(1, 0, 1);
        store(0, 3, 6, true);
        slot(1, 3, 7);
        store(6, 0, 0, true);
        slot(7, 0, 1);
        store(0, 3, 7, true);
        slot(1, 3, 0);
        stack(8);
    }

    private static void storesNothing() {
        make(1, 1);
        store(0, 0, -1, true);
        slot(1, 0, 0);
        log(1);
        store(0, 0, 0, true);
        store(0, 0, -1, true);
        slot(1, 0, 0);
        reckon(0);
        count(1, 0);
    }

    private static void storeAtNoPlace() {
        store(0, 0, -1, false);
        make(1, 1);
        store(1, 0, 0, false);
        store(1, 0, -1, false);
        for (int place : NEVER_A_PLACE) {
            store(place, 0, 0, false);
            store(place, 0, -1, false);
        }
        copy(0, 1);
        drop(1);
        store(1, 0, 0, false);
        log(0);
        slot(1, 0, 0);
    }

    private static void storeAtNothing() {
        make(1, 1);
        load(0, 0, 0);
        store(1, 0, 0, false);
        store(1, 0, -1, false);
        store(1, 0, 1, false);
        store(1, -1, 0, false);
        log(0);
        slot(1, 0, 0);
    }

    private static void storeAtNoSlot() {
        for (int slots = 1; slots <= 4; slots++) {
            make(slots, slots);
        }
        for (int place = 0; place < 4; place++) {
            store(place, place + 1, 0, false);
            for (int slot : NEVER_A_SLOT) {
                store(place, slot, 0, false);
            }
        }
        log(0);
        reckon(0);
        for (int object = 1; object <= 4; object++) {
            count(object, 0);
            slot(object, 0, 0);
            slot(object, object - 1, 0);
        }
    }

    private static void storeFromNoPlace() {
        make(1, 1);
        store(0, 0, 1, false);
        for (int from : new int[] {LEAST, -3, -2, 7, 8, LARGEST}) {
            store(0, 0, from, false);
        }
        log(0);
        copy(0, 1);
        store(0, 0, 2, false);
        drop(1);
        store(0, 0, 1, false);
        log(0);
        slot(1, 0, 0);
        store(0, 0, -1, true);
        store(0, 0, 0, true);
    }

    private static void dropsTheHighest() {
        make(1, 1);
        load(0, 0, 0);
        make(1, 2);
        for (int place = 3; place < 8; place++) {
            copy(0, 1);
        }
        for (int place = 7; place >= 3; place--) {
            drop(1);
            stack(place);
        }
        drop(2);
        drop(0);
        stack(1);
        held(0, 1);
        alive(2);
        reckonings(0);
    }

    private static void dropBad() {
        drop(BAD);
        stack(0);
        make(1, 1);
        drop(1);
        drop(BAD);
        drop(BAD);
        stack(0);
        make(1, 2);
        held(0, 2);
    }

    private static void reckonTellsHowMany() {
        reckon(0);
        make(1, 1);
        reckon(0);
        makeUnheld(1, 2);
        reckon(1);
        reckon(0);
        drop(1);
        for (int number = 3; number <= 25; number++) {
            makeUnheld(1, number);
        }
        reckon(24);
        reckon(0);
    }

    private static void stackFrom0To8() {
        stack(0);
        make(1, 1);
        for (int places = 1; places < 8; places++) {
            stack(places);
            load(0, 0, 0);
        }
        stack(8);
        load(0, 0, FULL);
        stack(8);
        for (int places = 7; places >= 0; places--) {
            x.drop();
            stack(places);
        }
        drop(BAD);
        stack(0);
    }

    private static void heldANumberOr0() {
        make(1, 1);
        load(0, 0, 0);
        for (int number = 2; number <= 7; number++) {
            make(1, number);
        }
        held(0, 1);
        held(1, 0);
        held(7, 7);
        stack(8);
    }

    private static void heldBad() {
        held(0, BAD);
        make(1, 1);
        held(1, BAD);
        for (int place : NEVER_A_PLACE) {
            held(place, BAD);
        }
        fillStack();
        for (int place : NEVER_A_PLACE) {
            held(place, BAD);
        }
        drop(1);
        held(7, BAD);
        held(6, 1);
        dropAll();
        held(0, BAD);
    }

    private static void aliveFrom0To24() {
        alive(0);
        for (int number = 1; number <= 24; number++) {
            makeUnheld(1, number);
            alive(number);
        }
        make(1, 25);
        alive(1);
        make(5, BAD);
        alive(1);
        drop(25);
        alive(1);
        reckon(1);
        alive(0);
    }

    private static void countFrom0Up() {
        make(4, 1);
        count(1, 0);
        for (int number = 2; number <= 9; number++) {
            make(4, number);
            for (int slot = 1; slot < 4; slot++) {
                store(1, slot, 0, true);
            }
            store(1, 0, 1, true);
            drop(number);
        }
        for (int slot = 0; slot < 4; slot++) {
            store(0, slot, 0, true);
        }
        reckon(0);
        count(1, 28);
        count(9, 1);
    }

    private static void countOfTheFreed() {
        make(1, 1);
        makeUnheld(1, 2);
        count(2, 0);
        reckon(1);
        count(1, 0);
        count(2, NONE);
        make(1, 3);
        cell(3, 2);
        count(2, NONE);
        count(3, 0);
    }

    private static void countOfWhatNeverWas() {
        count(1, NONE);
        count(0, NONE);
        make(1, 1);
        for (int object : new int[] {LEAST, -3, -1, 0, 2, 48, LARGEST}) {
            count(object, NONE);
        }
        fillStack();
        make(1, FULL);
        count(2, NONE);
    }

    private static void cellFrom0To46() {
        for (int number = 1; number <= 24; number++) {
            makeUnheld(1, number);
            cell(number, 2 * number - 2);
        }
        cell(1, 0);
        cell(24, 46);
    }

    private static void cellNone() {
        cell(0, NONE);
        cell(1, NONE);
        make(1, 1);
        for (int object : new int[] {LEAST, -3, -1, 0, 2, 48, LARGEST}) {
            cell(object, NONE);
        }
        cell(1, 0);
        drop(1);
        cell(1, 0);
        reckon(1);
        cell(1, NONE);
        make(1, 2);
        cell(1, NONE);
    }

    private static void slotANumberOr0() {
        make(4, 1);
        slot(1, 0, 0);
        slot(1, 3, 0);
        store(0, 3, 0, true);
        slot(1, 3, 1);
        slot(1, 2, 0);
        store(0, 0, 0, true);
        slot(1, 0, 1);
        reckon(0);
        slot(1, 0, 1);
        slot(1, 3, 1);
        store(0, 3, -1, true);
        slot(1, 3, 0);
    }

    private static void slotNone() {
        slot(1, 0, NONE);
        slot(0, 0, NONE);
        make(1, 1);
        for (int object : new int[] {LEAST, -3, -1, 0, 2, 48, LARGEST}) {
            slot(object, 0, NONE);
        }
        drop(1);
        slot(1, 0, 0);
        reckon(1);
        slot(1, 0, NONE);
    }

    private static void slotBad() {
        for (int slots = 1; slots <= 4; slots++) {
            make(slots, slots);
        }
        for (int object = 1; object <= 4; object++) {
            slot(object, object, BAD);
            for (int slot : NEVER_A_SLOT) {
                slot(object, slot, BAD);
            }
        }
    }

    private static void tableFrom0To24() {
        table(0);
        for (int number = 1; number <= 24; number++) {
            makeUnheld(1, number);
            table(number);
        }
        reckon(24);
        table(0);
        make(1, 25);
        store(0, 0, 0, true);
        table(1);
        reckon(0);
        table(0);
    }

    private static void stateAddedUp() {
        make(1, 1);
        state(1, 1);
        store(0, 0, 0, true);
        state(1, 3);
        reckon(0);
        store(0, 0, 0, true);
        state(1, 2);
    }

    private static void stateNeither() {
        make(1, 1);
        store(0, 0, 0, true);
        reckon(0);
        state(1, 0);
        drop(1);
        reckon(0);
        alive(1);
        state(1, 0);
    }

    private static void stateOfWhatIsNotAlive() {
        state(1, 0);
        state(0, 0);
        makeNoted(1);
        for (int object : new int[] {LEAST, -3, -1, 0, 2, 48, LARGEST}) {
            state(object, 0);
        }
        state(1, 3);
        reckon(1);
        state(1, 0);
        make(1, 2);
        store(0, 0, -1, true);
        state(2, 3);
        state(1, 0);
    }

    private static void logFrom0To5() {
        log(0);
        for (int number = 1; number <= 5; number++) {
            makeNoted(number);
            log(number);
        }
        makeNoted(6);
        log(1);
        reckon(1);
        log(0);
    }

    private static void entryObject() {
        for (int number = 1; number <= 5; number++) {
            makeNoted(number);
        }
        entry(0, -1, 1);
        entry(4, -1, 5);
    }

    private static void entryANumberOr0() {
        make(4, 1);
        store(0, 0, 0, true);
        store(0, 3, 0, true);
        entry(0, 0, 0);
        entry(0, 3, 0);
        reckon(0);
        store(0, 0, -1, true);
        store(0, 2, 0, true);
        entry(0, 0, 1);
        entry(0, 1, 0);
        entry(0, 2, 0);
        entry(0, 3, 1);
    }

    private static void entryThatIsNotThere() {
        entry(0, -1, BAD);
        makeNoted(1);
        entry(1, -1, BAD);
        entry(1, 0, BAD);
        for (int k : new int[] {LEAST, -2, -1, 4, 5, LARGEST}) {
            entry(k, -1, BAD);
            entry(k, 0, BAD);
        }
        for (int number = 2; number <= 5; number++) {
            makeNoted(number);
        }
        entry(5, -1, BAD);
        entry(-1, -1, BAD);
        makeNoted(6);
        entry(1, -1, BAD);
        entry(4, 0, BAD);
        reckon(1);
        entry(0, -1, BAD);
        entry(0, 0, BAD);
    }

    private static void entryWithoutSuchASlot() {
        for (int slots = 1; slots <= 4; slots++) {
            make(slots, slots);
            store(slots - 1, 0, -1, true);
        }
        for (int k = 0; k < 4; k++) {
            entry(k, k, 0);
            entry(k, k + 1, BAD);
            for (int slot : NEVER_A_SLOT) {
                entry(k, slot, slot == -1 ? k + 1 : BAD);
            }
        }
    }

    private static void freeFrom48To0() {
        free(48);
        for (int number = 1; number <= 9; number++) {
            makeUnheld(4, number);
            free(48 - 5 * number);
        }
        makeUnheld(2, 10);
        free(0);
        reckon(10);
        free(48);
    }

    private static void reckoningsOfAllKinds() {
        reckonings(0);
        reckon(0);
        reckonings(1);
        for (int number = 1; number <= 5; number++) {
            makeNoted(number);
        }
        reckonings(1);
        makeNoted(6);
        reckonings(2);
        reckon(1);
        reckonings(3);
        for (int number = 7; number <= 30; number++) {
            makeUnheld(1, number);
        }
        reckonings(3);
        makeUnheld(1, 31);
        reckonings(4);
    }

    private static void reckoningsOfRefusedCalls() {
        for (int number = 1; number <= 8; number++) {
            make(4, number);
        }
        for (int place = 0; place < 5; place++) {
            store(place, 0, place, true);
        }
        make(4, FULL);
        make(5, BAD);
        copy(0, FULL);
        store(7, 4, 0, false);
        store(7, 0, 8, false);
        store(8, 0, 0, false);
        reckonings(0);

        fresh();
        for (int number = 1; number <= 9; number++) {
            makeForEver(4, number);
        }
        reckonings(1);
        make(4, NONE);
        reckonings(2);
        make(3, NONE);
        reckonings(3);
        make(2, 10);
        reckonings(3);
    }
}
