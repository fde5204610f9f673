/**
 * Objects that are given back when nothing in the heap and nothing on the stack holds them, by
 * counts that are brought up to date only at a reckoning.
 */
public final class LazyCounts {
    public static final int BAD = -1;
    public static final int FULL = -2;
    public static final int NONE = -3;

    private static final int CELLS = 48;
    private static final int PLACES = 8;
    private static final int ENTRIES = 5;
    private static final int MOST_SLOTS = 4;
    private static final int NOTHING = 0;
    private static final int NOWHERE = -1;
    private static final int FROM_NOTHING = -1;
    private static final int OBJECT_ITSELF = -1;
    private static final int IN_TABLE = 1;
    private static final int NOTED = 2;

    private final Heap heap;
    private final Places places;
    private final Entries entries;
    private int reckoned;

    public LazyCounts() {
        heap = new Heap();
        places = new Places();
        entries = new Entries();
        reckoned = 0;
    }

    public int make(int slots) {
        if (slots < 1 || slots > MOST_SLOTS) {
            return BAD;
        }
        if (places.areFull()) {
            return FULL;
        }
        int first = heap.lowestRoom(slots + 1);
        if (first == NOWHERE) {
            bringUpToDate();
            first = heap.lowestRoom(slots + 1);
        }
        if (first == NOWHERE) {
            return NONE;
        }
        return places.push(heap.layNew(first, slots));
    }

    public int copy(int place) {
        if (!places.has(place)) {
            return BAD;
        }
        if (places.areFull()) {
            return FULL;
        }
        return places.push(places.at(place));
    }

    public int load(int place, int slot) {
        int first = firstCellAt(place);
        if (!heap.hasSlot(first, slot)) {
            return BAD;
        }
        if (places.areFull()) {
            return FULL;
        }
        return places.push(heap.inSlot(first, slot));
    }

    public boolean store(int place, int slot, int from) {
        int first = firstCellAt(place);
        if (!heap.hasSlot(first, slot)) {
            return false;
        }
        if (from != FROM_NOTHING && !places.has(from)) {
            return false;
        }
        note(first);
        heap.setSlot(first, slot, from == FROM_NOTHING ? NOTHING : places.at(from));
        return true;
    }

    public int drop() {
        if (places.size() == 0) {
            return BAD;
        }
        return places.pop();
    }

    public int reckon() {
        return bringUpToDate();
    }

    public int stack() {
        return places.size();
    }

    public int held(int place) {
        return places.has(place) ? places.at(place) : BAD;
    }

    public int alive() {
        return heap.objects();
    }

    public int count(int object) {
        int first = heap.firstCellOf(object);
        return first == NOWHERE ? NONE : heap.countAt(first);
    }

    public int cell(int object) {
        int first = heap.firstCellOf(object);
        return first == NOWHERE ? NONE : first;
    }

    public int slot(int object, int slot) {
        int first = heap.firstCellOf(object);
        if (first == NOWHERE) {
            return NONE;
        }
        return heap.hasSlot(first, slot) ? heap.inSlot(first, slot) : BAD;
    }

    public int table() {
        return heap.uncountedObjects();
    }

    public int state(int object) {
        int first = heap.firstCellOf(object);
        if (first == NOWHERE) {
            return 0;
        }
        int inTable = heap.isUncounted(first) ? IN_TABLE : 0;
        int noted = entries.tellOf(object) ? NOTED : 0;
        return inTable + noted;
    }

    public int log() {
        return entries.size();
    }

    public int entry(int k, int slot) {
        if (!entries.has(k)) {
            return BAD;
        }
        int object = entries.objectOf(k);
        if (slot == OBJECT_ITSELF) {
            return object;
        }
        return heap.hasSlot(heap.firstCellOf(object), slot) ? entries.before(k, slot) : BAD;
    }

    public int free() {
        return heap.freeCells();
    }

    public int reckonings() {
        return reckoned;
    }

    private int firstCellAt(int place) {
        return places.has(place) ? heap.firstCellOf(places.at(place)) : NOWHERE;
    }

    private void note(int first) {
        int object = heap.objectIn(first);
        if (entries.tellOf(object)) {
            return;
        }
        // What is written to and what is written are both on the stack, so this frees neither.
        if (entries.areFull()) {
            bringUpToDate();
        }
        int k = entries.open(object);
        int slots = heap.slotsAt(first);
        for (int slot = 0; slot < slots; slot++) {
            entries.setBefore(k, slot, heap.inSlot(first, slot));
        }
    }

    private int bringUpToDate() {
        reckoned++;
        for (int k = 0; k < entries.size(); k++) {
            countChangesOf(k);
        }
        entries.clear();
        return freeUnheld();
    }

    private void countChangesOf(int k) {
        int first = heap.firstCellOf(entries.objectOf(k));
        int slots = heap.slotsAt(first);
        for (int slot = 0; slot < slots; slot++) {
            heap.addToCount(entries.before(k, slot), -1);
            heap.addToCount(heap.inSlot(first, slot), 1);
        }
    }

    private int freeUnheld() {
        int freed = 0;
        // Every object has a cell of its own, so there are never more to free than cells.
        while (freed < CELLS) {
            int first = firstUnheld();
            if (first == NOWHERE) {
                break;
            }
            heap.giveBack(first);
            freed++;
        }
        return freed;
    }

    private int firstUnheld() {
        for (int at = 0; at < CELLS; at++) {
            if (heap.isUncounted(at) && !places.hold(heap.objectIn(at))) {
                return at;
            }
        }
        return NOWHERE;
    }

    /**
     * The cells. An object is known here by its first cell, whose word is its count; the words of
     * its other cells are its slots. The table is not kept: counts change in reckonings alone, and
     * each of them leaves in the table just the objects alive with the count 0.
     */
    private static final class Heap {
        private final int[] owners;
        private final int[] words;
        private int made;

        Heap() {
            owners = new int[CELLS];
            words = new int[CELLS];
            made = 0;
        }

        int lowestRoom(int cells) {
            int run = 0;
            for (int at = 0; at < CELLS; at++) {
                run = owners[at] == NOTHING ? run + 1 : 0;
                if (run == cells) {
                    return at - cells + 1;
                }
            }
            return NOWHERE;
        }

        int layNew(int first, int slots) {
            made++;
            for (int at = first; at <= first + slots; at++) {
                owners[at] = made;
                words[at] = NOTHING;
            }
            return made;
        }

        void giveBack(int first) {
            int slots = slotsAt(first);
            for (int slot = 0; slot < slots; slot++) {
                addToCount(inSlot(first, slot), -1);
            }
            for (int at = first; at <= first + slots; at++) {
                owners[at] = NOTHING;
            }
        }

        void addToCount(int object, int change) {
            int first = firstCellOf(object);
            if (first != NOWHERE) {
                words[first] += change;
            }
        }

        int firstCellOf(int object) {
            if (object == NOTHING) {
                return NOWHERE;
            }
            for (int at = 0; at < CELLS; at++) {
                if (owners[at] == object) {
                    return at;
                }
            }
            return NOWHERE;
        }

        int objectIn(int at) {
            return owners[at];
        }

        int countAt(int first) {
            return words[first];
        }

        int slotsAt(int first) {
            if (first == NOWHERE) {
                return 0;
            }
            int slots = 0;
            for (int at = first + 1; at < CELLS && owners[at] == owners[first]; at++) {
                slots++;
            }
            return slots;
        }

        boolean hasSlot(int first, int slot) {
            return slot >= 0 && slot < slotsAt(first);
        }

        int inSlot(int first, int slot) {
            return words[first + 1 + slot];
        }

        void setSlot(int first, int slot, int object) {
            words[first + 1 + slot] = object;
        }

        boolean isFirst(int at) {
            return owners[at] != NOTHING && (at == 0 || owners[at - 1] != owners[at]);
        }

        boolean isUncounted(int at) {
            return isFirst(at) && words[at] == 0;
        }

        int objects() {
            int found = 0;
            for (int at = 0; at < CELLS; at++) {
                found += isFirst(at) ? 1 : 0;
            }
            return found;
        }

        int uncountedObjects() {
            int found = 0;
            for (int at = 0; at < CELLS; at++) {
                found += isUncounted(at) ? 1 : 0;
            }
            return found;
        }

        int freeCells() {
            int found = 0;
            for (int at = 0; at < CELLS; at++) {
                found += owners[at] == NOTHING ? 1 : 0;
            }
            return found;
        }
    }

    /** The stack. */
    private static final class Places {
        private final int[] objects;
        private int height;

        Places() {
            objects = new int[PLACES];
            height = 0;
        }

        int size() {
            return height;
        }

        boolean areFull() {
            return height == PLACES;
        }

        boolean has(int place) {
            return place >= 0 && place < height;
        }

        int at(int place) {
            return objects[place];
        }

        int push(int object) {
            objects[height] = object;
            height++;
            return object;
        }

        int pop() {
            height--;
            return objects[height];
        }

        boolean hold(int object) {
            for (int place = 0; place < height; place++) {
                if (objects[place] == object) {
                    return true;
                }
            }
            return false;
        }
    }

    /** The log. */
    private static final class Entries {
        private final int[] objects;
        private final int[][] slotsBefore;
        private int length;

        Entries() {
            objects = new int[ENTRIES];
            slotsBefore = new int[ENTRIES][MOST_SLOTS];
            length = 0;
        }

        int size() {
            return length;
        }

        boolean areFull() {
            return length == ENTRIES;
        }

        boolean has(int k) {
            return k >= 0 && k < length;
        }

        boolean tellOf(int object) {
            for (int k = 0; k < length; k++) {
                if (objects[k] == object) {
                    return true;
                }
            }
            return false;
        }

        int objectOf(int k) {
            return objects[k];
        }

        int before(int k, int slot) {
            return slotsBefore[k][slot];
        }

        void setBefore(int k, int slot, int object) {
            slotsBefore[k][slot] = object;
        }

        int open(int object) {
            int k = length;
            objects[k] = object;
            length++;
            return k;
        }

        void clear() {
            length = 0;
        }
    }
}
