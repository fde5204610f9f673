import java.util.ArrayList;
import java.util.Arrays;
import java.util.List;
import java.util.Set;
import java.util.TreeMap;
import java.util.TreeSet;

/**
 * Long runs of calls, the same ones each time, in which every answer and after every call the whole
 * state that can be asked for are compared with a model that follows the document word by word. With
 * the questions these are more than the 512 calls of the document: the class has no need of that limit.
 */
public final class ModelTest {
    private static final int RUNS = 600;
    private static final int CALLS = 512;
    private static final int[] ODD = {Integer.MIN_VALUE, -3, -2, -1, 0, 5, 8, 9, 48, Integer.MAX_VALUE};
    private static final Due due = new Due();

    private static long seed;
    private static int noneAnswers;
    private static int fullAnswers;
    private static int makesWithReckoning;
    private static int storesWithReckoning;
    private static int mostFreed;
    private static int mostAlive;

    public static void main(String[] args) {
        for (int run = 0; run < RUNS && due.wrong() == 0; run++) {
            seed = run;
            oneRun(run);
        }
        outlivesItsCalls();
        theRunsReachWhatTheyShould();
        due.end();
    }

    private static void oneRun(int run) {
        LazyCounts x = new LazyCounts();
        Model model = new Model();
        // Runs differ in what they mostly do: some keep the heap full, some the stack, some the log.
        int[] weights = {1 + next(8), next(4), next(5), 2 + next(10), 1 + next(8), next(2)};
        for (int call = 0; call < CALLS && due.wrong() == 0; call++) {
            due.about("run " + run + ", call " + call);
            oneCall(x, model, weights);
            compare(x, model);
        }
    }

    private static void oneCall(LazyCounts x, Model model, int[] weights) {
        int place = index(x.stack());
        int slot = index(4);
        switch (chosen(weights)) {
            case 0 -> {
                int slots = next(20) == 0 ? odd() : 1 + next(4);
                int before = model.reckonings;
                int answer = model.make(slots);
                due.is("make(" + slots + ")", x.make(slots), answer);
                makesWithReckoning += model.reckonings - before;
                noneAnswers += answer == -3 ? 1 : 0;
                fullAnswers += answer == -2 ? 1 : 0;
            }
            case 1 -> due.is("copy(" + place + ")", x.copy(place), model.copy(place));
            case 2 -> due.is("load(" + place + ", " + slot + ")", x.load(place, slot), model.load(place, slot));
            case 3 -> {
                int from = next(4) == 0 ? -1 : index(x.stack());
                int before = model.reckonings;
                boolean answer = model.store(place, slot, from);
                due.is("store(" + place + ", " + slot + ", " + from + ")", x.store(place, slot, from), answer);
                storesWithReckoning += model.reckonings - before;
            }
            case 4 -> due.is("drop()", x.drop(), model.drop());
            default -> {
                int freed = model.reckon();
                due.is("reckon()", x.reckon(), freed);
                mostFreed = Math.max(mostFreed, freed);
            }
        }
        mostAlive = Math.max(mostAlive, model.alive.size());
    }

    private static void compare(LazyCounts x, Model model) {
        due.is("stack()", x.stack(), model.stack.size());
        for (int place = -1; place <= 8; place++) {
            due.is("held(" + place + ")", x.held(place), model.held(place));
        }
        due.is("alive()", x.alive(), model.alive.size());
        due.is("table()", x.table(), model.table.size());
        due.is("log()", x.log(), model.log.size());
        due.is("free()", x.free(), model.free());
        due.is("reckonings()", x.reckonings(), model.reckonings);
        for (int object = -1; object <= model.made + 1; object++) {
            due.is("count(" + object + ")", x.count(object), model.count(object));
            due.is("cell(" + object + ")", x.cell(object), model.cell(object));
            due.is("state(" + object + ")", x.state(object), model.state(object));
            for (int slot = -1; slot <= 4; slot++) {
                due.is("slot(" + object + ", " + slot + ")", x.slot(object, slot), model.slot(object, slot));
            }
        }
        for (int k = -1; k <= 5; k++) {
            for (int slot = -2; slot <= 4; slot++) {
                due.is("entry(" + k + ", " + slot + ")", x.entry(k, slot), model.entry(k, slot));
            }
        }
    }

    /** What later calls answer is free, but by rule 7 of LANGUAGE.md none of them may throw. */
    private static void outlivesItsCalls() {
        LazyCounts x = new LazyCounts();
        int[] weights = {6, 2, 3, 8, 6, 1};
        for (int call = 0; call < 200_000; call++) {
            int place = index(8);
            int slot = index(4);
            switch (chosen(weights)) {
                case 0 -> x.make(index(5));
                case 1 -> x.copy(place);
                case 2 -> x.load(place, slot);
                case 3 -> x.store(place, slot, index(8));
                case 4 -> x.drop();
                default -> x.reckon();
            }
            x.held(odd());
            x.count(odd());
            x.cell(odd());
            x.slot(index(call), odd());
            x.state(odd());
            x.entry(index(5), index(4));
        }
    }

    private static void theRunsReachWhatTheyShould() {
        due.about("the runs themselves");
        due.is("make() answered NONE", noneAnswers > 100, true);
        due.is("make() answered FULL", fullAnswers > 100, true);
        due.is("make() reckoned", makesWithReckoning > 100, true);
        due.is("store() reckoned", storesWithReckoning > 100, true);
        due.is("reckon() freed many", mostFreed >= 8, true);
        due.is("many were alive", mostAlive >= 16, true);
    }

    private static int chosen(int[] weights) {
        int at = next(Arrays.stream(weights).sum());
        int kind = 0;
        while (at >= weights[kind]) {
            at -= weights[kind];
            kind++;
        }
        return kind;
    }

    private static int index(int bound) {
        return next(25) == 0 || bound == 0 ? odd() : next(bound);
    }

    private static int odd() {
        return ODD[next(ODD.length)];
    }

    private static int next(int bound) {
        seed = seed * 6364136223846793005L + 1442695040888963407L;
        return (int) ((seed >>> 33) % bound);
    }

    /** An object of the model; where there is nothing, there is null. */
    private static final class Thing {
        final int number;
        final int cell;
        final Thing[] slots;
        int count = 0;

        Thing(int number, int cell, int slots) {
            this.number = number;
            this.cell = cell;
            this.slots = new Thing[slots];
        }

        boolean hasSlot(int slot) {
            return 0 <= slot && slot < slots.length;
        }
    }

    private record Entry(Thing object, Thing[] held) {
    }

    /** The document's words, with a table that is kept; of those to free the youngest goes first. */
    private static final class Model {
        final TreeMap<Integer, Thing> alive = new TreeMap<>();
        final List<Thing> stack = new ArrayList<>();
        final Set<Integer> table = new TreeSet<>();
        final List<Entry> log = new ArrayList<>();
        int made = 0;
        int reckonings = 0;

        int make(int slots) {
            if (slots < 1 || slots > 4) {
                return -1;
            }
            if (stack.size() == 8) {
                return -2;
            }
            int cell = room(slots + 1);
            if (cell < 0) {
                reckon();
                cell = room(slots + 1);
            }
            if (cell < 0) {
                return -3;
            }
            made++;
            Thing thing = new Thing(made, cell, slots);
            alive.put(made, thing);
            table.add(made);
            return push(thing);
        }

        int copy(int place) {
            if (!isPlace(place)) {
                return -1;
            }
            return stack.size() == 8 ? -2 : push(stack.get(place));
        }

        int load(int place, int slot) {
            if (!isPlace(place) || stack.get(place) == null || !stack.get(place).hasSlot(slot)) {
                return -1;
            }
            return stack.size() == 8 ? -2 : push(stack.get(place).slots[slot]);
        }

        boolean store(int place, int slot, int from) {
            if (!isPlace(place) || stack.get(place) == null || !stack.get(place).hasSlot(slot)) {
                return false;
            }
            if (from != -1 && !isPlace(from)) {
                return false;
            }
            Thing thing = stack.get(place);
            if (!isNoted(thing)) {
                if (log.size() == 5) {
                    reckon();
                }
                log.add(new Entry(thing, thing.slots.clone()));
            }
            thing.slots[slot] = from == -1 ? null : stack.get(from);
            return true;
        }

        int drop() {
            return stack.isEmpty() ? -1 : told(stack.remove(stack.size() - 1));
        }

        int reckon() {
            reckonings++;
            for (Entry entry : log) {
                for (int slot = 0; slot < entry.held.length; slot++) {
                    add(entry.held[slot], -1);
                    add(entry.object.slots[slot], 1);
                }
            }
            log.clear();
            table.removeIf(number -> alive.get(number).count != 0);
            for (Thing thing : alive.values()) {
                if (thing.count == 0) {
                    table.add(thing.number);
                }
            }
            int freed = 0;
            for (Thing thing = youngestToFree(); thing != null; thing = youngestToFree()) {
                freeOne(thing);
                freed++;
            }
            return freed;
        }

        Thing youngestToFree() {
            Thing youngest = null;
            for (int number : table) {
                if (!stack.contains(alive.get(number))) {
                    youngest = alive.get(number);
                }
            }
            return youngest;
        }

        void freeOne(Thing thing) {
            for (Thing part : thing.slots) {
                add(part, -1);
                if (part != null && part.count == 0) {
                    table.add(part.number);
                }
            }
            alive.remove(thing.number);
            table.remove(thing.number);
        }

        void add(Thing thing, int change) {
            if (thing != null) {
                thing.count += change;
            }
        }

        int held(int place) {
            return isPlace(place) ? told(stack.get(place)) : -1;
        }

        int count(int object) {
            return alive.containsKey(object) ? alive.get(object).count : -3;
        }

        int cell(int object) {
            return alive.containsKey(object) ? alive.get(object).cell : -3;
        }

        int slot(int object, int slot) {
            if (!alive.containsKey(object)) {
                return -3;
            }
            Thing thing = alive.get(object);
            return thing.hasSlot(slot) ? told(thing.slots[slot]) : -1;
        }

        int state(int object) {
            return (table.contains(object) ? 1 : 0) + (isNoted(alive.get(object)) ? 2 : 0);
        }

        int entry(int k, int slot) {
            if (k < 0 || k >= log.size()) {
                return -1;
            }
            Entry entry = log.get(k);
            if (slot == -1) {
                return entry.object.number;
            }
            return entry.object.hasSlot(slot) ? told(entry.held[slot]) : -1;
        }

        int free() {
            int free = 0;
            for (boolean taken : taken()) {
                free += taken ? 0 : 1;
            }
            return free;
        }

        boolean isPlace(int place) {
            return 0 <= place && place < stack.size();
        }

        boolean isNoted(Thing thing) {
            return log.stream().anyMatch(entry -> entry.object == thing);
        }

        int push(Thing thing) {
            stack.add(thing);
            return told(thing);
        }

        int told(Thing thing) {
            return thing == null ? 0 : thing.number;
        }

        boolean[] taken() {
            boolean[] taken = new boolean[48];
            for (Thing thing : alive.values()) {
                Arrays.fill(taken, thing.cell, thing.cell + thing.slots.length + 1, true);
            }
            return taken;
        }

        int room(int cells) {
            boolean[] taken = taken();
            for (int cell = 0; cell + cells <= 48; cell++) {
                boolean fits = true;
                for (int at = cell; at < cell + cells; at++) {
                    fits &= !taken[at];
                }
                if (fits) {
                    return cell;
                }
            }
            return -1;
        }
    }
}
