import java.util.Arrays;
import java.util.function.Consumer;
import java.util.function.Supplier;
import java.util.function.ToIntFunction;

/** What is refused changes nothing: held against a twin on which the refused call was never made. */
final class Twins {
    private static final int[] LOOKED_AHEAD = {1, 2, 5, 20, 99};

    private Twins() {
    }

    /** Makes both ready, makes the call on one of them alone, and has them go on side by side. */
    static void refused(String name, Consumer<HeardSlots> ready, ToIntFunction<HeardSlots> call, int want) {
        alikeFromThenOn(name, () -> {
            HeardSlots x = made(ready);
            Check.due(name, call.applyAsInt(x), want);
            return x;
        }, () -> made(ready));
    }

    static HeardSlots made(Consumer<HeardSlots> ready) {
        HeardSlots x = new HeardSlots();
        ready.accept(x);
        return x;
    }

    /** Made twice: slots behind what stands push out what can be undone, so each way on has a pair of its own. */
    static void alikeFromThenOn(String name, Supplier<HeardSlots> one, Supplier<HeardSlots> other) {
        undoAlike(name, one.get(), other.get());
        goOnAlike(name, one.get(), other.get());
    }

    private static void undoAlike(String name, HeardSlots x, HeardSlots twin) {
        alike(name + ": as it stands", x, twin);
        for (int k = 1; k <= 5; k++) {
            Check.due(name + ": undo() " + k, x.undo(), twin.undo());
            alike(name + ": behind undo() " + k, x, twin);
        }
    }

    private static void goOnAlike(String name, HeardSlots x, HeardSlots twin) {
        for (int k = 1; k <= 12; k++) {
            Check.due(name + ": slot(1)", x.slot(1), twin.slot(1));
        }
        alike(name + ": behind slots", x, twin);
        Check.due(name + ": write(59)", x.write(59), twin.write(59));
        Check.due(name + ": lay()", x.lay(), twin.lay());
        alike(name + ": behind lay()", x, twin);
        Check.due(name + ": wipe()", x.wipe(), twin.wipe());
    }

    static void alike(String name, HeardSlots x, HeardSlots twin) {
        Check.due(name, Arrays.equals(look(x), look(twin)) ? 1 : 0, 1);
    }

    /** All that can be asked of an object, as one row of answers. */
    static int[] look(HeardSlots x) {
        Row row = new Row();
        row.addAll(Check.counts(x));
        row.add(x.fault());
        row.add(x.soon());
        for (int i = 0; i < x.count(0); i++) {
            lookAtStation(row, x, i);
        }
        for (int what = 0; what < 3; what++) {
            for (int t = 1; t <= 9; t++) {
                row.add(x.took(t, what));
            }
        }
        for (int n : LOOKED_AHEAD) {
            for (int what = 0; what < 6; what++) {
                row.add(x.ahead(n, what));
            }
        }
        return row.answers();
    }

    private static void lookAtStation(Row row, HeardSlots x, int i) {
        for (int what = 0; what < 12; what++) {
            row.add(x.station(i, what));
        }
        for (int what = 0; what < 4; what++) {
            for (int k = 0; k < 7; k++) {
                row.add(x.letterOf(i, k, what));
                row.add(x.overheard(i, k, what));
            }
        }
        for (int j = 0; j < 6; j++) {
            row.add(x.pair(i, j));
            row.add(x.draw(i, j));
        }
    }

    /** A row of answers that grows. */
    private static final class Row {
        private int[] held = new int[1024];
        private int size;

        void add(int answer) {
            if (size == held.length) {
                held = Arrays.copyOf(held, 2 * size);
            }
            held[size] = answer;
            size++;
        }

        void addAll(int[] answers) {
            for (int answer : answers) {
                add(answer);
            }
        }

        int[] answers() {
            return Arrays.copyOf(held, size);
        }
    }
}
