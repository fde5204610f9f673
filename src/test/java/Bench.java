/** One object at a time, and calls on it whose answers are compared with the ones that are due. */
abstract class Bench {
    static final int BAD = -1;
    static final int FULL = -2;
    static final int NONE = -3;
    static final int LEAST = Integer.MIN_VALUE;
    static final int LARGEST = Integer.MAX_VALUE;
    static final int[] NEVER_A_PLACE = {LEAST, -2, -1, 8, LARGEST};

    static final Due due = new Due();
    static LazyCounts x;

    static void begin(String topic) {
        due.about(topic);
        fresh();
    }

    static void fresh() {
        x = new LazyCounts();
    }

    /** The test of one sentence of the document, on a new object; a call that throws fails it. */
    static void sentence(String words, Runnable test) {
        begin(words);
        try {
            test.run();
        } catch (RuntimeException thrown) {
            due.is("a call that threw " + thrown, true, false);
        }
    }

    /** A refused call leaves all as in an object that was never asked. */
    static void refused(Runnable state, Runnable call) {
        same(state, call, () -> { });
    }

    /** Two calls in the same state leave the same. */
    static void same(Runnable state, Runnable call, Runnable other) {
        String want = leftBy(state, other);
        due.is("what the calls leave", leftBy(state, call), want);
    }

    private static String leftBy(Runnable state, Runnable call) {
        fresh();
        state.run();
        call.run();
        return Shown.of(x);
    }

    static void make(int slots, int want) {
        due.is("make(" + slots + ")", x.make(slots), want);
    }

    static void copy(int place, int want) {
        due.is("copy(" + place + ")", x.copy(place), want);
    }

    static void load(int place, int slot, int want) {
        due.is("load(" + place + ", " + slot + ")", x.load(place, slot), want);
    }

    static void store(int place, int slot, int from, boolean want) {
        due.is("store(" + place + ", " + slot + ", " + from + ")", x.store(place, slot, from), want);
    }

    static void drop(int want) {
        due.is("drop()", x.drop(), want);
    }

    static void reckon(int want) {
        due.is("reckon()", x.reckon(), want);
    }

    static void stack(int want) {
        due.is("stack()", x.stack(), want);
    }

    static void held(int place, int want) {
        due.is("held(" + place + ")", x.held(place), want);
    }

    static void alive(int want) {
        due.is("alive()", x.alive(), want);
    }

    static void count(int object, int want) {
        due.is("count(" + object + ")", x.count(object), want);
    }

    static void cell(int object, int want) {
        due.is("cell(" + object + ")", x.cell(object), want);
    }

    static void slot(int object, int slot, int want) {
        due.is("slot(" + object + ", " + slot + ")", x.slot(object, slot), want);
    }

    static void table(int want) {
        due.is("table()", x.table(), want);
    }

    static void state(int object, int want) {
        due.is("state(" + object + ")", x.state(object), want);
    }

    static void log(int want) {
        due.is("log()", x.log(), want);
    }

    static void entry(int k, int slot, int want) {
        due.is("entry(" + k + ", " + slot + ")", x.entry(k, slot), want);
    }

    static void free(int want) {
        due.is("free()", x.free(), want);
    }

    static void reckonings(int want) {
        due.is("reckonings()", x.reckonings(), want);
    }

    static void dropAll() {
        dropDownTo(0);
    }

    static void dropDownTo(int height) {
        for (int places = x.stack(); places > height; places--) {
            x.drop();
        }
    }

    static void fillStack() {
        for (int places = x.stack(); places < 8; places++) {
            x.copy(0);
        }
    }

    /** Leaves an entry in the log for a new object, and the stack as it was. */
    static void makeNoted(int number) {
        make(1, number);
        store(x.stack() - 1, 0, -1, true);
        drop(number);
    }

    /** Leaves a new object that only the next reckoning gives back. */
    static void makeUnheld(int slots, int number) {
        make(slots, number);
        drop(number);
    }

    /** Leaves a new object that holds itself, and so is never given back. */
    static void makeForEver(int slots, int number) {
        make(slots, number);
        store(x.stack() - 1, 0, x.stack() - 1, true);
        drop(number);
    }
}
