/**
 * All that an object's face tells, and what it answers when it is cleared away then: two objects
 * that show the same differ in nothing that a caller could ever see. It takes some 300 calls.
 */
final class Shown {
    private static final int OBJECTS = 25;

    private Shown() {
    }

    static String of(LazyCounts x) {
        StringBuilder text = new StringBuilder();
        totals(x, text);
        places(x, text);
        objects(x, text);
        entries(x, text);
        clearingAway(x, text);
        return text.toString();
    }

    private static void totals(LazyCounts x, StringBuilder text) {
        text.append("stack ").append(x.stack()).append(", alive ").append(x.alive());
        text.append(", table ").append(x.table()).append(", log ").append(x.log());
        text.append(", free ").append(x.free()).append(", reckonings ").append(x.reckonings());
    }

    private static void places(LazyCounts x, StringBuilder text) {
        text.append(", places");
        for (int place = 0; place < 8; place++) {
            text.append(' ').append(x.held(place));
        }
    }

    private static void objects(LazyCounts x, StringBuilder text) {
        for (int object = 1; object <= OBJECTS; object++) {
            if (x.cell(object) >= 0) {
                text.append(", ").append(object).append(" in ").append(x.cell(object));
                text.append(" count ").append(x.count(object)).append(" state ").append(x.state(object));
                text.append(" slots");
                for (int slot = 0; slot < 4; slot++) {
                    text.append(' ').append(x.slot(object, slot));
                }
            }
        }
    }

    private static void entries(LazyCounts x, StringBuilder text) {
        for (int k = 0; k < 5; k++) {
            text.append(", entry");
            for (int slot = -1; slot < 4; slot++) {
                text.append(' ').append(x.entry(k, slot));
            }
        }
    }

    private static void clearingAway(LazyCounts x, StringBuilder text) {
        text.append(", reckon ").append(x.reckon()).append(", drops");
        for (int place = 0; place < 9; place++) {
            text.append(' ').append(x.drop());
        }
        text.append(", reckon ").append(x.reckon()).append(", make ").append(x.make(1));
    }
}
