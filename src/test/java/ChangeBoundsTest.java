import java.util.function.Consumer;

/** Promises 6 to 10: each bound of what is done, the last value taken and the first refused. */
public final class ChangeBoundsTest {
    private static final int BAD = HeardSlots.BAD, NO = HeardSlots.NO, FULL = HeardSlots.FULL, NONE = HeardSlots.NONE;

    private ChangeBoundsTest() {
    }

    public static void main(String[] args) {
        letterOfAndToStations();
        letterToItself();
        letterIs1To9Long();
        letterToOneNotHeard();
        lettersAre6();
        letterOrderOfAnswers();
        firstLetterDrawsAndNoOther();
        hearOfStations();
        hearOfItself();
        hearIs0Or1();
        hearThatIsSo();
        hearWhereALetterStands();
        hearBetweenNoneAndAll();
        drawsAre0To9999();
        drawsThatAreSo();
        slotsAre1To99();
        slotsAre9999InAll();
        slotsCountAnewWhenLaid();
        undoOfNone();
        undoOfEachChange();
        undoOfTheLast4();
        undoRoundAndRound();
        undoBehindLaid();
        refusedCallsAreNoChanges();
        Check.finish("ChangeBoundsTest");
    }

    private static Consumer<HeardSlots> laid(String text) {
        return x -> {
            Check.rewrite(x, text);
            x.lay();
        };
    }

    /** All six hear one another, nobody has a letter. */
    private static String allSix() {
        StringBuilder text = new StringBuilder("n6;");
        for (int i = 0; i < 6; i++) {
            for (int j = 0; j < i; j++) {
                text.append("h").append(j).append(",").append(i).append(";");
            }
        }
        return text.toString();
    }

    private static void letterOfAndToStations() {
        for (int i : Check.NO_STATIONS) {
            Twins.refused("letter(" + i + ", 1, 1)", laid(allSix()), x -> x.letter(i, 1, 1), BAD);
            Twins.refused("letter(1, " + i + ", 1)", laid(allSix()), x -> x.letter(1, i, 1), BAD);
        }
        Twins.refused("letter(2, 0, 1) of 2", laid("n2;h0,1;"), x -> x.letter(2, 0, 1), BAD);
        Twins.refused("letter(0, 2, 1) of 2", laid("n2;h0,1;"), x -> x.letter(0, 2, 1), BAD);
        HeardSlots x = Check.laid(allSix());
        Check.due("letter(0, 5, 1)", x.letter(0, 5, 1), 1);
        Check.due("letter(5, 0, 1)", x.letter(5, 0, 1), 1);
        Check.dueAll("to whom", new int[] {x.letterOf(0, 0, 0), x.letterOf(5, 0, 0)}, 5, 0);
    }

    private static void letterToItself() {
        for (int i = 0; i < 6; i++) {
            int self = i;
            Twins.refused("letter to itself", laid(allSix()), x -> x.letter(self, self, 1), BAD);
        }
    }

    private static void letterIs1To9Long() {
        for (int l : new int[] {0, 10, -1, 11, 256 + 1, Integer.MIN_VALUE, Integer.MAX_VALUE}) {
            Twins.refused("letter(0, 1, " + l + ")", laid("n2;h0,1;"), x -> x.letter(0, 1, l), BAD);
        }
        for (int l = 1; l <= 9; l++) {
            HeardSlots x = Check.laid("n2;h0,1;");
            Check.due("letter(0, 1, " + l + ")", x.letter(0, 1, l), 1);
            Check.due("LONG", x.letterOf(0, 0, 1), l);
        }
    }

    private static void letterToOneNotHeard() {
        Twins.refused("letter to a hidden one", laid("n3;h0,1;h1,2;"), x -> x.letter(0, 2, 1), NO);
        Twins.refused("letter to one apart", laid("n2;"), x -> x.letter(1, 0, 1), NO);
        HeardSlots x = Check.laid("n2;");
        x.hear(1, 0, 1);
        Check.due("letter(0, 1, 1) once they hear", x.letter(0, 1, 1), 1);
        Check.due("letter(1, 0, 1) once they hear", x.letter(1, 0, 1), 1);
    }

    private static void lettersAre6() {
        HeardSlots x = Check.laid("n3;h0,1;h1,2;l0,1,1;l0,1,2;w1,1;");
        for (int k = 3; k <= 6; k++) {
            Check.due("letter(0, 1, " + k + ")", x.letter(0, 1, k), k);
        }
        Check.due("letter(0, 1, 7)", x.letter(0, 1, 7), FULL);
        Check.due("letters stay", x.station(0, 0), 6);
        Check.dueAll("the last one stays", new int[] {x.letterOf(0, 5, 1), x.letterOf(0, 6, 1)}, 6, NONE);
        Check.due("of another one", x.letter(1, 0, 1), 1);
        x.undo();
        Check.due("slot(2): one of them is sent", x.slot(2), 1);
        Check.due("letter(0, 1, 7)", x.letter(0, 1, 7), 6);
        Check.due("letter(0, 1, 8)", x.letter(0, 1, 8), FULL);
        Check.dueAll("first and last", new int[] {x.letterOf(0, 0, 1), x.letterOf(0, 5, 1)}, 2, 7);
        Twins.refused("the seventh", laid("n2;h0,1;" + "l1,0,4;".repeat(6)), y -> y.letter(1, 0, 4), FULL);
    }

    private static void letterOrderOfAnswers() {
        Consumer<HeardSlots> full = laid("n3;h0,1;" + "l0,1,4;".repeat(6));
        Twins.refused("long, not heard, full", full, x -> x.letter(0, 2, 10), BAD);
        Twins.refused("alike, full", full, x -> x.letter(0, 0, 1), BAD);
        Twins.refused("no station, full", full, x -> x.letter(0, 3, 1), BAD);
        Twins.refused("long, full", full, x -> x.letter(0, 1, 0), BAD);
        Twins.refused("not heard, full", full, x -> x.letter(0, 2, 1), NO);
        Twins.refused("full", full, x -> x.letter(0, 1, 1), FULL);
    }

    private static void firstLetterDrawsAndNoOther() {
        HeardSlots x = Check.laid("n2;h0,1;w16,64;z21;");
        Check.dueAll("drew", Check.stations(x, 8), 0, 0);
        Check.due("wait without a letter", x.station(1, 3), NONE);
        x.letter(1, 0, 9);
        Check.dueAll("drew", Check.stations(x, 8), 0, 1);
        Check.due("wait by DRAW 0", x.station(1, 3), x.draw(1, 0) % 16);
        x.letter(1, 0, 1);
        Check.dueAll("drew", Check.stations(x, 8), 0, 1);
        Check.due("wait stays", x.station(1, 3), x.draw(1, 0) % 16);
    }

    private static void hearOfStations() {
        for (int i : Check.NO_STATIONS) {
            Twins.refused("hear(" + i + ", 1, 0)", laid(allSix()), x -> x.hear(i, 1, 0), BAD);
            Twins.refused("hear(1, " + i + ", 0)", laid(allSix()), x -> x.hear(1, i, 0), BAD);
            Twins.refused("hear(" + i + ", 1, 1)", laid("n6;"), x -> x.hear(i, 1, 1), BAD);
            Twins.refused("hear(1, " + i + ", 1)", laid("n6;"), x -> x.hear(1, i, 1), BAD);
        }
        Twins.refused("hear(0, 2, 1) of 2", laid("n2;"), x -> x.hear(0, 2, 1), BAD);
        Twins.refused("hear(2, 0, 1) of 2", laid("n2;"), x -> x.hear(2, 0, 1), BAD);
        HeardSlots x = Check.laid("n6;");
        Check.due("hear(5, 0, 1)", x.hear(5, 0, 1), 1);
        Check.dueAll("hears", Check.stations(x, 10), 32, 0, 0, 0, 0, 1);
    }

    private static void hearOfItself() {
        for (int i = 0; i < 6; i++) {
            int self = i;
            Twins.refused("hear itself", laid(allSix()), x -> x.hear(self, self, 1), BAD);
            Twins.refused("hear itself no more", laid(allSix()), x -> x.hear(self, self, 0), BAD);
        }
    }

    private static void hearIs0Or1() {
        for (int is : new int[] {-1, 2, 256, 65536, 3, Integer.MIN_VALUE, Integer.MAX_VALUE}) {
            Twins.refused("hear(0, 1, " + is + ") of such as hear", laid("n2;h0,1;"), x -> x.hear(0, 1, is), BAD);
            Twins.refused("hear(0, 1, " + is + ") of such as do not", laid("n2;"), x -> x.hear(0, 1, is), BAD);
        }
    }

    private static void hearThatIsSo() {
        for (int is = 0; is <= 1; is++) {
            int as = is;
            Consumer<HeardSlots> ready = laid(is == 1 ? "n3;h0,1;" : "n3;h1,2;");
            Twins.refused("hear(0, 1, " + is + ")", ready, x -> x.hear(0, 1, as), NO);
            Twins.refused("hear(1, 0, " + is + ")", ready, x -> x.hear(1, 0, as), NO);
        }
    }

    private static void hearWhereALetterStands() {
        String[] rows = {"l0,1,1;", "l1,0,1;", "l0,2,1;l0,2,1;l0,2,1;l0,2,1;l0,2,1;l0,1,1;", "l0,1,1;l0,2,1;l1,2,1;"};
        for (String row : rows) {
            Consumer<HeardSlots> ready = laid("n3;h0,1;h0,2;h1,2;" + row);
            Twins.refused("hear(0, 1, 0) with " + row, ready, x -> x.hear(0, 1, 0), NO);
            Twins.refused("hear(1, 0, 0) with " + row, ready, x -> x.hear(1, 0, 0), NO);
        }
        HeardSlots x = Check.laid("n3;h0,1;h0,2;h1,2;l0,2,1;l1,2,1;l2,0,1;l2,1,1;");
        Check.due("letters to a third one do not hinder", x.hear(0, 1, 0), 2);
        HeardSlots sent = Check.laid("n2;h0,1;l0,1,1;w1,1;");
        sent.slot(1);
        Check.due("hear(0, 1, 0) ahead of the told", sent.hear(0, 1, 0), NO);
        sent.slot(1);
        Check.due("hear(0, 1, 0) behind the told", sent.hear(0, 1, 0), 0);
        HeardSlots dropped = Check.laid("n2;h0,1;l0,1,1;l1,0,1;w1,1;t10,1;");
        dropped.slot(1);
        Check.due("hear(1, 0, 0) ahead of the drop", dropped.hear(1, 0, 0), NO);
        dropped.slot(1);
        Check.due("hear(1, 0, 0) behind the drop", dropped.hear(1, 0, 0), 0);
    }

    private static void hearBetweenNoneAndAll() {
        HeardSlots x = Check.laid("n6;");
        int pairs = 0;
        for (int i = 0; i < 6; i++) {
            for (int j = 0; j < i; j++) {
                pairs++;
                Check.due("hear(" + i + ", " + j + ", 1)", x.hear(i, j, 1), pairs);
            }
        }
        Check.due("pairs", x.count(1), 15);
        Check.dueAll("hears", Check.stations(x, 10), 62, 61, 59, 55, 47, 31);
        for (int i = 0; i < 6; i++) {
            for (int j = i + 1; j < 6; j++) {
                pairs--;
                Check.due("hear(" + i + ", " + j + ", 0)", x.hear(i, j, 0), pairs);
            }
        }
        Check.dueAll("hears", Check.stations(x, 10), 0, 0, 0, 0, 0, 0);
    }

    private static void drawsAre0To9999() {
        for (int z : new int[] {-1, 10000, 65536, -9999, Integer.MIN_VALUE, Integer.MAX_VALUE}) {
            Twins.refused("draws(" + z + ")", laid("n2;h0,1;l0,1,1;z7;"), x -> x.draws(z), BAD);
        }
        HeardSlots x = Check.laid("n2;z7;");
        Check.due("draws(0)", x.draws(0), 7);
        Check.due("draws(9999)", x.draws(9999), 0);
        Check.due("draws(1)", x.draws(1), 9999);
        Check.due("draws(9998)", x.draws(9998), 1);
        Check.due("Z", x.count(8), 9998);
    }

    private static void drawsThatAreSo() {
        for (int z : new int[] {0, 1, 9998, 9999}) {
            Twins.refused("draws(" + z + ") that is so", laid("n2;z" + z + ";"), x -> x.draws(z), NO);
        }
    }

    private static void slotsAre1To99() {
        for (int n : new int[] {0, 100, -1, 256 + 1, 65536 + 1, Integer.MIN_VALUE, Integer.MAX_VALUE}) {
            Twins.refused("slot(" + n + ")", laid("n2;h0,1;l0,1,1;w1,1;"), x -> x.slot(n), BAD);
        }
        HeardSlots x = Check.laid("n2;h0,1;l0,1,1;w1,1;");
        Check.due("slot(1)", x.slot(1), 0);
        Check.due("slots", x.count(3), 1);
        Check.due("slot(99)", x.slot(99), 1);
        Check.due("slots", x.count(3), 100);
    }

    /** As many slots as are told, by calls of 99 and one of what is left. */
    private static void goOn(HeardSlots x, int slots) {
        for (int left = slots; left > 0; left -= 99) {
            x.slot(Math.min(99, left));
        }
    }

    private static void slotsAre9999InAll() {
        for (int left = 0; left <= 99; left += left < 3 || left > 96 ? 1 : 31) {
            int most = left;
            Consumer<HeardSlots> ready = x -> goOn(x, 9999 - most);
            HeardSlots x = new HeardSlots();
            ready.accept(x);
            Check.due("slots", x.count(3), 9999 - left);
            if (left < 99) {
                Twins.refused("slot(" + (left + 1) + ") with " + left, ready, y -> y.slot(most + 1), NO);
                Twins.refused("slot(99) with " + left, ready, y -> y.slot(99), NO);
            }
            Twins.refused("slot(100) with " + left, ready, y -> y.slot(100), BAD);
            Twins.refused("slot(0) with " + left, ready, y -> y.slot(0), BAD);
            if (left > 0) {
                Check.due("slot(" + left + ")", x.slot(left), 0);
            }
            Check.due("slots", x.count(3), 9999);
            Check.due("slot(1) behind all", x.slot(1), NO);
            x.undo();
            Check.due("slot(1) behind undo()", x.slot(1), 0);
        }
    }

    private static void slotsCountAnewWhenLaid() {
        HeardSlots x = new HeardSlots();
        goOn(x, 9999);
        Check.due("slot(1)", x.slot(1), NO);
        Check.rewrite(x, "n2;");
        x.lay();
        Check.due("slot(99)", x.slot(99), 0);
        Check.due("slots", x.count(3), 99);
    }

    private static void undoOfNone() {
        Twins.refused("undo() on a new object", x -> x.write('n'), HeardSlots::undo, NO);
        Twins.refused("undo() when all is undone", x -> {
            x.slot(5);
            x.undo();
        }, HeardSlots::undo, NO);
    }

    private static void undoOfEachChange() {
        undone("letter", x -> x.letter(1, 2, 9));
        undone("a first letter", x -> x.letter(3, 0, 9));
        undone("hear, 1", x -> x.hear(1, 3, 1));
        undone("hear, 0", x -> x.hear(3, 0, 0));
        undone("draws", x -> x.draws(9999));
        undone("slot(1)", x -> x.slot(1));
        undone("slot(99)", x -> x.slot(99));
    }

    /** In every slot of a run: the change is undone, and all is as on a twin without it. */
    private static void undone(String name, Consumer<HeardSlots> change) {
        for (int slots = 1; slots <= 30; slots++) {
            int n = slots;
            Consumer<HeardSlots> ready = x -> {
                Check.rewrite(x, "n4;h0,1;h1,2;h2,3;h0,3;l0,1,5;l2,1,5;l1,0,2;w2,8;t4,3;");
                x.lay();
                x.slot(n);
            };
            Twins.alikeFromThenOn(name + " undone behind " + n, () -> {
                HeardSlots x = Twins.made(ready);
                change.accept(x);
                Check.due(name + ", changes", x.count(13), 2);
                Check.due(name + ", undo()", x.undo(), 1);
                return x;
            }, () -> Twins.made(ready));
        }
    }

    private static void undoOfTheLast4() {
        for (int changes = 0; changes <= 10; changes++) {
            HeardSlots x = new HeardSlots();
            for (int z = 1; z <= changes; z++) {
                x.draws(z);
                Check.due("changes that can be undone", x.count(13), Math.min(4, z));
            }
            int most = Math.min(4, changes);
            for (int k = 1; k <= most; k++) {
                Check.due("undo() " + k + " of " + changes, x.undo(), most - k);
                Check.due("Z", x.count(8), changes - k);
            }
            Check.due("undo() behind them", x.undo(), NO);
            Check.due("Z stays", x.count(8), changes - most);
        }
    }

    /** Done and undone by turns, so that what is kept comes round. */
    private static void undoRoundAndRound() {
        HeardSlots x = new HeardSlots();
        int z = 0;
        for (int round = 0; round < 12; round++) {
            for (int k = 0; k < 3; k++) {
                z++;
                x.draws(z);
            }
            Check.due("undo()", x.undo(), round == 0 ? 2 : 3);
            z--;
            Check.due("undo()", x.undo(), round == 0 ? 1 : 2);
            z--;
            Check.due("Z", x.count(8), z);
            x.draws(z + 100);
            x.draws(z + 200);
            Check.due("undo()", x.undo(), round == 0 ? 2 : 3);
            Check.due("Z", x.count(8), z + 100);
            Check.due("undo()", x.undo(), round == 0 ? 1 : 2);
            Check.due("Z", x.count(8), z);
        }
    }

    private static void undoBehindLaid() {
        HeardSlots x = new HeardSlots();
        x.slot(1);
        x.draws(4);
        Check.rewrite(x, "n3;x");
        Check.due("lay() with a fault", x.lay(), NO);
        Check.due("changes", x.count(13), 2);
        Check.rewrite(x, "n3;h0,1;");
        Check.due("lay()", x.lay(), 3);
        Check.due("changes", x.count(13), 0);
        Check.due("undo()", x.undo(), NO);
        Check.due("stations", x.count(0), 3);
        x.draws(6);
        Check.due("undo()", x.undo(), 0);
        Check.due("undo() up to LAID", x.undo(), NO);
        Check.dueAll("stations and Z", new int[] {x.count(0), x.count(8)}, 3, 0);
    }

    private static void refusedCallsAreNoChanges() {
        HeardSlots x = new HeardSlots();
        x.draws(1);
        x.slot(100);
        x.slot(0);
        x.letter(0, 2, 1);
        x.letter(0, 0, 1);
        x.hear(0, 1, 1);
        x.hear(0, 1, 0);
        x.hear(0, 1, 2);
        x.draws(1);
        x.draws(-1);
        x.ahead(99, 0);
        x.soon();
        x.fault();
        x.write('n');
        x.lay();
        Check.due("changes", x.count(13), 1);
        Check.due("undo()", x.undo(), 0);
        Check.due("Z", x.count(8), 0);
        Check.due("undo()", x.undo(), NO);
    }
}
