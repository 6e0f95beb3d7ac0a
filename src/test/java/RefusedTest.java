import java.util.function.Consumer;
import java.util.function.ToIntFunction;

/** Of several the first of BAD, NO, NONE, FULL, and nothing changes: every refused call in states of many kinds. */
public final class RefusedTest {
    private static final int BAD = HeardSlots.BAD, NO = HeardSlots.NO, FULL = HeardSlots.FULL, NONE = HeardSlots.NONE;
    private static final int[] WILD = {Integer.MIN_VALUE, Integer.MIN_VALUE + 5, -65536, -33, -32, -1, 100000, 65536,
        Integer.MAX_VALUE - 5, Integer.MAX_VALUE};

    private final String state;
    private final HeardSlots x;
    private final HeardSlots twin;

    private RefusedTest(String state, Consumer<HeardSlots> ready) {
        this.state = state;
        x = Twins.made(ready);
        twin = Twins.made(ready);
    }

    public static void main(String[] args) {
        in("new", x -> { });
        in("all undone", x -> {
            x.letter(0, 1, 9);
            x.undo();
        });
        for (int slots = 1; slots <= 40; slots++) {
            int n = slots;
            in("behind " + n + " slots", x -> x.slot(n));
        }
        in("rows and text full", RefusedTest::fill);
        in("no slot left", RefusedTest::goToTheEnd);
        in("nobody hears", x -> lay(x, "n6;"));
        in("two stations", x -> lay(x, "n2;h0,1;l0,1,9;l1,0,9;w16,64;t1,7;z9999;"));
        in("a fault in THE TEXT", x -> Check.rewrite(x, "n2;h0,1;l0,1,10;"));
        orderOfAnswers();
        Check.finish("RefusedTest");
    }

    private static void in(String state, Consumer<HeardSlots> ready) {
        Twins.alikeFromThenOn(state, () -> {
            RefusedTest test = new RefusedTest(state, ready);
            test.makeAll();
            return test.x;
        }, () -> Twins.made(ready));
    }

    private void makeAll() {
        for (int wild : WILD) {
            numbersThatAreNone(wild);
        }
        numbersJustBeside();
        stationsJustBehind(x.count(0));
        whatIsNotAsThingsStand();
    }

    private static void lay(HeardSlots x, String text) {
        Check.rewrite(x, text);
        x.lay();
    }

    /** Each row has six letters, THE TEXT two hundred, and four changes can be undone. */
    private static void fill(HeardSlots x) {
        lay(x, "n6;h0,1;h1,2;h2,3;h3,4;h4,5;");
        for (int i = 0; i < 6; i++) {
            for (int k = 0; k < 6; k++) {
                x.letter(i, i == 5 ? 4 : i + 1, 1 + k);
            }
        }
        while (x.count(14) < 200) {
            x.write(';');
        }
    }

    private static void goToTheEnd(HeardSlots x) {
        for (int k = 0; k < 101; k++) {
            x.slot(99);
        }
    }

    private void refused(String call, ToIntFunction<HeardSlots> made, int want) {
        Check.due(state + ": " + call, made.applyAsInt(x), want);
    }

    private void bad(String call, ToIntFunction<HeardSlots> made) {
        refused(call, made, BAD);
        Twins.alike(state + ": nothing changes by " + call, x, twin);
    }

    private void numbersThatAreNone(int wild) {
        refused("write " + wild, y -> y.write(wild), BAD);
        refused("letter of " + wild, y -> y.letter(wild, 1, 1), BAD);
        refused("letter to " + wild, y -> y.letter(0, wild, 1), BAD);
        refused("letter, long " + wild, y -> y.letter(0, 1, wild), BAD);
        refused("hear of " + wild, y -> y.hear(wild, 1, 1), BAD);
        refused("hear and " + wild, y -> y.hear(0, wild, 0), BAD);
        refused("hear, is " + wild, y -> y.hear(0, 1, wild), BAD);
        refused("draws " + wild, y -> y.draws(wild), BAD);
        refused("slot " + wild, y -> y.slot(wild), BAD);
        refused("station of " + wild, y -> y.station(wild, 0), BAD);
        refused("station, what " + wild, y -> y.station(0, wild), BAD);
        refused("letterOf of " + wild, y -> y.letterOf(wild, 0, 0), BAD);
        refused("letterOf, k " + wild, y -> y.letterOf(0, wild, 0), wild < 0 ? BAD : NONE);
        refused("letterOf, what " + wild, y -> y.letterOf(0, 0, wild), BAD);
        refused("overheard of " + wild, y -> y.overheard(wild, 0, 0), BAD);
        refused("overheard, k " + wild, y -> y.overheard(0, wild, 0), wild < 0 ? BAD : NONE);
        refused("overheard, what " + wild, y -> y.overheard(0, 0, wild), BAD);
        refused("pair of " + wild, y -> y.pair(wild, 0), BAD);
        refused("pair and " + wild, y -> y.pair(0, wild), BAD);
        refused("draw of " + wild, y -> y.draw(wild, 0), BAD);
        refused("draw, k " + wild, y -> y.draw(0, wild), BAD);
        refused("took " + wild, y -> y.took(wild, 0), BAD);
        refused("took, what " + wild, y -> y.took(1, wild), BAD);
        refused("ahead " + wild, y -> y.ahead(wild, 0), BAD);
        refused("ahead, what " + wild, y -> y.ahead(1, wild), BAD);
        refused("count " + wild, y -> y.count(wild), BAD);
        Twins.alike(state + ": nothing changes by " + wild, x, twin);
    }

    private void numbersJustBeside() {
        bad("write(31)", y -> y.write(31));
        bad("write(127)", y -> y.write(127));
        bad("letter(0, 1, 0)", y -> y.letter(0, 1, 0));
        bad("letter(0, 1, 10)", y -> y.letter(0, 1, 10));
        bad("letter(1, 1, 1)", y -> y.letter(1, 1, 1));
        bad("hear(0, 1, 2)", y -> y.hear(0, 1, 2));
        bad("hear(0, 0, 0)", y -> y.hear(0, 0, 0));
        bad("hear(1, 1, 1)", y -> y.hear(1, 1, 1));
        bad("draws(10000)", y -> y.draws(10000));
        bad("slot(0)", y -> y.slot(0));
        bad("slot(100)", y -> y.slot(100));
        bad("station(0, 12)", y -> y.station(0, 12));
        bad("letterOf(0, 0, 4)", y -> y.letterOf(0, 0, 4));
        bad("overheard(0, 0, 4)", y -> y.overheard(0, 0, 4));
        bad("pair(0, 0)", y -> y.pair(0, 0));
        bad("draw(0, 1000)", y -> y.draw(0, 1000));
        bad("took(0, 0)", y -> y.took(0, 0));
        bad("took(10, 0)", y -> y.took(10, 0));
        bad("took(9, 3)", y -> y.took(9, 3));
        bad("ahead(0, 0)", y -> y.ahead(0, 0));
        bad("ahead(100, 0)", y -> y.ahead(100, 0));
        bad("ahead(1, 6)", y -> y.ahead(1, 6));
        bad("count(15)", y -> y.count(15));
    }

    private void stationsJustBehind(int n) {
        bad("letter of n", y -> y.letter(n, 0, 1));
        bad("letter to n", y -> y.letter(0, n, 1));
        bad("hear of n", y -> y.hear(n, 0, 1));
        bad("hear and n", y -> y.hear(0, n, 0));
        bad("station of n", y -> y.station(n, 0));
        bad("letterOf of n", y -> y.letterOf(n, 0, 0));
        bad("overheard of n", y -> y.overheard(n, 0, 0));
        bad("pair and n", y -> y.pair(0, n));
        bad("draw of n", y -> y.draw(n, 0));
    }

    /** The state is asked which calls must be refused: pairs that are so already, rows that are full. */
    private void whatIsNotAsThingsStand() {
        int z = x.count(8);
        refused("draws of Z", y -> y.draws(z), NO);
        if (x.fault() != NONE || x.count(14) == 0) {
            refused("lay()", HeardSlots::lay, NO);
        }
        if (x.count(13) == 0) {
            refused("undo()", HeardSlots::undo, NO);
        }
        if (x.count(14) == 200) {
            refused("write(32)", y -> y.write(32), FULL);
        }
        int left = 9999 - x.count(3);
        if (left < 99) {
            refused("slot(" + (left + 1) + ")", y -> y.slot(left + 1), NO);
        }
        for (int i = 0; i < x.count(0); i++) {
            for (int j = 0; j < x.count(0); j++) {
                if (i != j) {
                    pairNotAsThingsStand(i, j);
                }
            }
        }
        Twins.alike(state + ": nothing changes by what is not as things stand", x, twin);
    }

    private void pairNotAsThingsStand(int i, int j) {
        boolean hears = x.pair(i, j) == 0;
        refused("hear(" + i + ", " + j + ") as it is", y -> y.hear(i, j, hears ? 1 : 0), NO);
        if (!hears) {
            refused("letter(" + i + ", " + j + ")", y -> y.letter(i, j, 1), NO);
        } else if (x.station(i, 0) == 6) {
            refused("letter(" + i + ", " + j + ")", y -> y.letter(i, j, 1), FULL);
        }
        for (int k = 0; k < x.station(i, 0); k++) {
            if (x.letterOf(i, k, 0) == j) {
                refused("hear(" + i + ", " + j + ", 0)", y -> y.hear(i, j, 0), NO);
                refused("hear(" + j + ", " + i + ", 0)", y -> y.hear(j, i, 0), NO);
            }
        }
    }

    private static void orderOfAnswers() {
        HeardSlots full = new HeardSlots();
        fill(full);
        Check.dueAll("letter: BAD, NO, FULL",
            new int[] {full.letter(0, 2, 0), full.letter(0, 2, 1), full.letter(0, 1, 1)}, BAD, NO, FULL);
        Check.dueAll("write: BAD, FULL", new int[] {full.write(31), full.write(32)}, BAD, FULL);
        Check.dueAll("hear: BAD, NO",
            new int[] {full.hear(0, 1, 2), full.hear(0, 1, 1), full.hear(0, 1, 0)}, BAD, NO, NO);
        Check.dueAll("letterOf: BAD, NONE", new int[] {full.letterOf(0, 6, 4), full.letterOf(0, 6, 3)}, BAD, NONE);
        Check.dueAll("overheard: BAD, NONE", new int[] {full.overheard(0, 0, 4), full.overheard(0, 0, 3)}, BAD, NONE);
        Check.dueAll("took: BAD, NONE", new int[] {full.took(10, 1), full.took(9, 3), full.took(9, 1)}, BAD, BAD, NONE);
        HeardSlots end = new HeardSlots();
        goToTheEnd(end);
        Check.dueAll("slot: BAD, NO",
            new int[] {end.slot(100), end.slot(0), end.slot(99), end.slot(1)}, BAD, BAD, NO, NO);
        Check.dueAll("station: BAD, NONE", new int[] {end.station(4, 3), end.station(0, 3)}, BAD, NONE);
    }
}
