/** One method for each promise of the document, with answers worked out by hand; a window of 1 makes every wait 0. */
public final class PromiseTest {
    private static final int BAD = HeardSlots.BAD, NO = HeardSlots.NO, FULL = HeardSlots.FULL, NONE = HeardSlots.NONE;

    private static final String FIRST = "n4;h0,1;h1,2;h2,3;l0,1,5;l2,1,5;l3,2,1;l1,0,2;";
    private static final String TWO_SHORT = "n2;h0,1;l0,1,1;w1,1;";
    private static final String TWO_ASKED = "n2;h0,1;l0,1,3;w1,1;";
    private static final String ALL_HEAR = "n3;h0,1;h1,2;h0,2;l0,1,3;w1,1;";
    private static final String ONE_HIDDEN = "n3;h0,1;h1,2;l0,1,3;w1,1;";
    private static final String BOTH_HIDDEN = "n3;h0,1;h1,2;l0,1,1;l2,1,1;w1,1;t10,3;";

    private PromiseTest() {
    }

    public static void main(String[] args) {
        promise1NewObject();
        promise2Write();
        promise3Wipe();
        promise4Fault();
        promise4FaultOfLetters();
        promise4FaultOfNumbers();
        promise5Lay();
        promise6Letter();
        promise7Hear();
        promise8Draws();
        promise9Slot();
        promise9Asked();
        promise9Clash();
        promise9Gap();
        promise10Undo();
        promise11Station();
        promise11Windows();
        promise12LetterOf();
        promise13Overheard();
        promise13Still();
        promise13StillUpTo();
        promise14Pair();
        promise15Draw();
        promise16Took();
        promise17Ahead();
        promise18Soon();
        promise19Count();
        Check.finish("PromiseTest");
    }

    private static void promise1NewObject() {
        HeardSlots x = new HeardSlots();
        Check.dueAll("count of a new object", Check.counts(x), 4, 3, 2, 0, 4, 0, 0, 0, 0, 4, 32, 3, 5, 0, 0);
        Check.dueAll("hears", Check.stations(x, 10), 2, 5, 10, 4);
        Check.dueAll("waits", Check.stations(x, 3), 1, 3, 3, 3);
        Check.due("fault() of an empty text", x.fault(), NONE);
        Check.due("lay() of an empty text", x.lay(), NO);
        HeardSlots told = Check.laid(FIRST);
        for (int k = 0; k < 30; k++) {
            Check.due("slot(1) of both", x.slot(1), told.slot(1));
            Check.dueAll("what both send", Check.stations(x, 9), Check.stations(told, 9));
            Check.dueAll("still of both", Check.stations(x, 4), Check.stations(told, 4));
        }
    }

    private static void promise2Write() {
        HeardSlots x = new HeardSlots();
        Check.due("write(31)", x.write(31), BAD);
        Check.due("write(127)", x.write(127), BAD);
        Check.due("write(-1)", x.write(-1), BAD);
        Check.due("write(65536 + 110)", x.write(65536 + 110), BAD);
        Check.due("write(32)", x.write(32), 1);
        Check.due("write(126)", x.write(126), 2);
        for (int k = 3; k <= 200; k++) {
            Check.due("write(48)", x.write(48), k);
        }
        Check.due("write(48) behind 200", x.write(48), FULL);
        Check.due("write(200) behind 200", x.write(200), BAD);
        Check.due("letters behind FULL", x.count(14), 200);
    }

    private static void promise3Wipe() {
        HeardSlots x = new HeardSlots();
        Check.due("wipe() of none", x.wipe(), 0);
        Check.rewrite(x, "x;n3;");
        Check.due("wipe()", x.wipe(), 5);
        Check.due("fault() behind wipe()", x.fault(), NONE);
        Check.due("wipe() again", x.wipe(), 0);
        Check.due("write(110) behind wipe()", x.write(110), 1);
        Check.due("stations stay", x.count(0), 4);
    }

    private static void faultOf(String text, int want) {
        HeardSlots x = new HeardSlots();
        Check.rewrite(x, text);
        Check.due("fault() of " + text, x.fault(), want);
        Check.due("letters of " + text, x.count(14), text.length());
        Check.due("lay() of " + text, x.lay(), want == NONE && !text.isEmpty() ? x.count(0) : NO);
    }

    private static void promise4Fault() {
        faultOf(FIRST, NONE);
        faultOf("n2;", NONE);
        faultOf("n6;", NONE);
        faultOf("n1;", 0);
        faultOf("n7;", 0);
        faultOf("n;", 0);
        faultOf("n2", 0);
        faultOf("N2;", 0);
        faultOf(" n2;", 0);
        faultOf("n 2;", 0);
        faultOf("n2 ;", 0);
        faultOf("n2,3;", 0);
        faultOf(";", 0);
        faultOf("n2;;", 3);
        faultOf("n2;n2;", 3);
        faultOf("z1;n2;", 0);
        faultOf("w4,32;n2;", 0);
        faultOf("n2;h0,1", 3);
        faultOf("n2;h", 3);
        faultOf("n2;h0,1;h1,0;h0,1;", NONE);
        faultOf("n2;h0,1;h0,0;h5,5;", 8);
        faultOf("n3;h0,2;h0,3;", 8);
        faultOf("n3;h3,0;", 3);
        faultOf("n3;h0;", 3);
        faultOf("n3;h0,1,2;", 3);
        faultOf("n3;h0;1;", 3);
        faultOf("n3;x0,1;", 3);
    }

    private static void promise4FaultOfLetters() {
        String six = "n3;h0,1;l0,1,1;l0,1,1;l0,1,1;l0,1,1;l0,1,1;l0,1,1;";
        faultOf(six, NONE);
        faultOf(six + "l1,0,1;", NONE);
        faultOf(six + "l0,1,1;", six.length());
        faultOf("n2;l0,1,1;h0,1;", 3);
        faultOf("n3;h0,1;l0,2,1;", 8);
        faultOf("n2;h0,1;l0,0,1;", 8);
        faultOf("n2;h0,1;l0,1,0;", 8);
        faultOf("n2;h0,1;l0,1,9;", NONE);
        faultOf("n2;h0,1;l0,1,10;", 8);
        faultOf("n2;h0,1;l1,0,2;", NONE);
        faultOf("n2;h0,1;l0,2,1;", 8);
        faultOf("n2;h0,1;l0,1;", 8);
        faultOf("n2;h0,1;l-1,1,1;", 8);
    }

    private static void promise4FaultOfNumbers() {
        faultOf("n0002;h0000,0001;", NONE);
        faultOf("n00002;", 0);
        faultOf("n2;h00000,1;", 3);
        faultOf("n2;w1,1;w16,64;w16,16;", NONE);
        faultOf("n2;w0,1;", 3);
        faultOf("n2;w17,64;", 3);
        faultOf("n2;w5,4;", 3);
        faultOf("n2;w1,65;", 3);
        faultOf("n2;t1,1;t10,7;", NONE);
        faultOf("n2;t0,1;", 3);
        faultOf("n2;t11,1;", 3);
        faultOf("n2;t1,0;", 3);
        faultOf("n2;t1,8;", 3);
        faultOf("n2;z0;z9999;", NONE);
        faultOf("n2;z10000;", 3);
        faultOf("n2;z;", 3);
        StringBuilder full = new StringBuilder("n2;");
        while (full.length() < 197) {
            full.append("z1;");
        }
        faultOf(full + "z1", full.length());
        faultOf(full.toString().replaceFirst("z1;", "z12;") + ";", full.length() + 1);
    }

    private static void promise5Lay() {
        HeardSlots x = new HeardSlots();
        x.slot(99);
        x.draws(7);
        Check.rewrite(x, "n3;h0,1;q;");
        Check.due("lay() with a fault", x.lay(), NO);
        Check.dueAll("nothing changes", new int[] {x.count(0), x.count(3), x.count(8), x.count(13)}, 4, 99, 7, 2);
        Check.rewrite(x, "n6;h0,5;l5,0,1;w2,3;w5,9;t4,2;t1,7;z9;z10;");
        Check.due("lay()", x.lay(), 6);
        Check.dueAll("count behind lay()", Check.counts(x), 6, 1, 0, 0, 1, 0, 0, 0, 10, 5, 9, 1, 7, 0, 42);
        Check.dueAll("windows", Check.stations(x, 1), 5, 5, 5, 5, 5, 5);
        Check.dueAll("drew", Check.stations(x, 8), 0, 0, 0, 0, 0, 1);
        Check.due("the wait is drawn by the last z and w", x.station(5, 3), x.draw(5, 0) % 5);
        for (int what = 4; what <= 7; what++) {
            Check.dueAll("station of each, " + what, Check.stations(x, what), 0, 0, 0, 0, 0, 0);
        }
        Check.due("took(1, 1)", x.took(1, 1), NONE);
        Check.due("undo()", x.undo(), NO);
        Check.due("lay() again", x.lay(), 6);
        forgetsWhatIsUnderWay();
    }

    /** A grant is owed, something is overheard and somebody waits; the text is laid anew. */
    private static void forgetsWhatIsUnderWay() {
        HeardSlots x = Check.laid(ALL_HEAR);
        x.slot(1);
        Check.dueAll("what is sent next", Check.stations(x, 9), 0, 2, 0);
        Check.due("lay() anew", x.lay(), 3);
        Check.dueAll("what is sent next", Check.stations(x, 9), 1, 0, 0);
        Check.dueAll("who waits", Check.stations(x, 11), 0, 0, 0);
        Check.due("overheard(2, 0, 0)", x.overheard(2, 0, 0), NONE);
        Check.due("station(2, 4)", x.station(2, 4), 0);
        x.slot(4);
        Check.due("parts sent", x.letterOf(0, 0, 3), 2);
        x.lay();
        Check.due("parts sent", x.letterOf(0, 0, 3), 0);
        Check.due("soon()", x.soon(), 6);
    }

    private static void promise6Letter() {
        HeardSlots x = Check.laid("n3;h0,1;h1,2;w1,1;");
        Check.due("letter(-1, 1, 1)", x.letter(-1, 1, 1), BAD);
        Check.due("letter(3, 1, 1)", x.letter(3, 1, 1), BAD);
        Check.due("letter(0, 3, 1)", x.letter(0, 3, 1), BAD);
        Check.due("letter(1, 1, 1)", x.letter(1, 1, 1), BAD);
        Check.due("letter(0, 1, 0)", x.letter(0, 1, 0), BAD);
        Check.due("letter(0, 1, 10)", x.letter(0, 1, 10), BAD);
        Check.due("letter(0, 2, 10)", x.letter(0, 2, 10), BAD);
        Check.due("letter(0, 2, 1)", x.letter(0, 2, 1), NO);
        Check.due("no change yet", x.count(13), 0);
        Check.due("station(0, 3) without letters", x.station(0, 3), NONE);
        for (int k = 1; k <= 6; k++) {
            Check.due("letter(0, 1, 1)", x.letter(0, 1, 1), k);
        }
        Check.due("letter(0, 1, 1)", x.letter(0, 1, 1), FULL);
        Check.due("letter(0, 2, 1) to one not heard", x.letter(0, 2, 1), NO);
        Check.due("letter(0, 0, 1) when full", x.letter(0, 0, 1), BAD);
        Check.due("only the first one is drawn for", x.station(0, 8), 1);
        Check.due("letter(1, 2, 9)", x.letter(1, 2, 9), 1);
        Check.due("letterOf(1, 0, 0)", x.letterOf(1, 0, 0), 2);
        Check.due("letterOf(1, 0, 1)", x.letterOf(1, 0, 1), 9);
    }

    private static void promise7Hear() {
        HeardSlots x = Check.laid("n3;h0,1;l0,1,1;l0,1,2;w1,1;");
        Check.due("hear(0, 0, 1)", x.hear(0, 0, 1), BAD);
        Check.due("hear(0, 3, 1)", x.hear(0, 3, 1), BAD);
        Check.due("hear(-1, 0, 1)", x.hear(-1, 0, 1), BAD);
        Check.due("hear(0, 1, 2)", x.hear(0, 1, 2), BAD);
        Check.due("hear(0, 1, -1)", x.hear(0, 1, -1), BAD);
        Check.due("hear(1, 0, 1)", x.hear(1, 0, 1), NO);
        Check.due("hear(1, 2, 0)", x.hear(1, 2, 0), NO);
        Check.due("hear(0, 1, 0)", x.hear(0, 1, 0), NO);
        Check.due("hear(1, 0, 0)", x.hear(1, 0, 0), NO);
        Check.due("no change yet", x.count(13), 0);
        Check.due("hear(2, 0, 1)", x.hear(2, 0, 1), 2);
        Check.dueAll("hears", Check.stations(x, 10), 6, 1, 1);
        x.slot(2);
        Check.due("hear(0, 1, 0), one letter more stands", x.hear(0, 1, 0), NO);
        x.slot(20);
        Check.due("letters", x.count(4), 0);
        Check.due("hear(1, 0, 0)", x.hear(1, 0, 0), 1);
        Check.due("hear(0, 2, 0)", x.hear(0, 2, 0), 0);
        Check.dueAll("hears", Check.stations(x, 10), 0, 0, 0);
        heardFromThenOn();
    }

    /** Who sent in the slot ahead counts for those who hear it now. */
    private static void heardFromThenOn() {
        HeardSlots x = Check.laid("n4;h0,1;h2,3;l0,1,9;w1,1;t10,5;");
        x.slot(1);
        Check.due("letter(2, 3, 9)", x.letter(2, 3, 9), 1);
        Check.due("station(2, 9) apart", x.station(2, 9), 3);
        Check.due("hear(2, 0, 1)", x.hear(2, 0, 1), 3);
        Check.due("station(2, 9), the slot ahead is heard now", x.station(2, 9), 0);
        Check.due("undo()", x.undo(), 2);
        Check.due("station(2, 9)", x.station(2, 9), 3);
    }

    private static void promise8Draws() {
        HeardSlots x = new HeardSlots();
        Check.due("draws(-1)", x.draws(-1), BAD);
        Check.due("draws(10000)", x.draws(10000), BAD);
        Check.due("draws(0)", x.draws(0), NO);
        Check.due("draws(9999)", x.draws(9999), 0);
        Check.due("draws(9999)", x.draws(9999), NO);
        Check.due("count(8)", x.count(8), 9999);
        Check.dueAll("waits stay", Check.stations(x, 3), 1, 3, 3, 3);
        Check.due("draws(0)", x.draws(0), 9999);
        HeardSlots y = Check.laid("n2;h0,1;w16,16;");
        y.draws(5);
        y.letter(1, 0, 1);
        Check.due("a wait by the new Z", y.station(1, 3), y.draw(1, 0) % 16);
    }

    private static void promise9Slot() {
        HeardSlots x = Check.laid(TWO_SHORT);
        Check.due("slot(0)", x.slot(0), BAD);
        Check.due("slot(100)", x.slot(100), BAD);
        Check.due("slot(-1)", x.slot(-1), BAD);
        Check.due("slot(1): the part", x.slot(1), 0);
        Check.dueAll("what is sent next", Check.stations(x, 9), 0, 4);
        Check.due("slot(1): the told", x.slot(1), 1);
        Check.due("took(1, 0)", x.took(1, 0), 1);
        Check.due("slots", x.count(3), 2);
        x.slot(97);
        for (int k = 0; k < 100; k++) {
            Check.due("slot(99)", x.slot(99), 0);
        }
        Check.due("slots", x.count(3), 9999);
        Check.due("slot(1)", x.slot(1), NO);
        Check.due("slot(100)", x.slot(100), BAD);
        Check.due("letter(0, 1, 1)", x.letter(0, 1, 1), 1);
        Check.due("soon() beyond", x.soon(), 2);
        Check.due("ahead(2, 0) beyond", x.ahead(2, 0), 1);
        HeardSlots y = Check.laid(FIRST);
        for (int k = 0; k < 100; k++) {
            y.slot(99);
        }
        Check.due("slots", y.count(3), 9900);
        Check.due("undo()", y.undo(), 3);
        y.slot(98);
        Check.due("slot(99) to 9998", y.slot(99), 0);
        Check.due("slot(2) to 10000", y.slot(2), NO);
        Check.due("slot(1) to 9999", y.slot(1), 0);
        Check.due("slot(99)", y.slot(99), NO);
    }

    private static void promise9Asked() {
        HeardSlots x = Check.laid(TWO_ASKED);
        int[][] sends = {{1, 0}, {0, 2}, {3, 0}, {3, 0}, {3, 0}, {0, 4}, {0, 0}};
        int[] parts = {0, 0, 0, 1, 2, 3};
        int[] waits = {0, 1, 0, 0, 0, 1, 0};
        for (int k = 0; k < sends.length; k++) {
            Check.dueAll("what is sent in slot " + (k + 1), Check.stations(x, 9), sends[k]);
            Check.due("waiting in slot " + (k + 1), x.station(0, 11), waits[k]);
            Check.due("parts ahead of slot " + (k + 1), x.letterOf(0, 0, 3), k < 6 ? parts[k] : NONE);
            Check.due("slot " + (k + 1), x.slot(1), k == 5 ? 1 : 0);
        }
        // 2 is told to be still up to slot 12 by the grant to 0 in slot 2, so that it grants nothing to 3
        HeardSlots y = Check.laid("n4;h0,1;h1,2;h2,3;l0,1,9;w1,1;t3,1;");
        y.slot(2);
        Check.due("station(2, 4)", y.station(2, 4), 12);
        y.letter(3, 2, 3);
        y.slot(1);
        Check.dueAll("no grant of a still one", Check.stations(y, 9), 3, 0, 0, 0);
        Check.due("station(3, 11)", y.station(3, 11), 1);
        Check.due("ahead(1, 1)", y.ahead(1, 1), 1);
    }

    private static void promise9Clash() {
        HeardSlots x = Check.laid(BOTH_HIDDEN);
        int[][] tries = {{0, 0, 0}, {1, 0, 1}, {1, 0, 1}, {2, 0, 2}, {2, 0, 2}, {0, 0, 0}};
        for (int k = 0; k < 6; k++) {
            Check.due("slot " + (k + 1), x.slot(1), 0);
            Check.dueAll("tries", Check.stations(x, 2), tries[k]);
            Check.dueAll("clashes", Check.stations(x, 5), 0, k / 2 + 1, 0);
        }
        Check.dueAll("dropped", Check.stations(x, 7), 1, 0, 1);
        Check.dueAll("letters", Check.stations(x, 0), 0, 0, 0);
        Check.dueAll("drew", Check.stations(x, 8), 3, 0, 3);
        // two that hear one another and begin in the same slot hear nothing and clash nowhere
        HeardSlots y = Check.laid("n2;h0,1;l0,1,1;l1,0,1;w1,1;t10,1;");
        Check.due("slot(2)", y.slot(2), 0);
        Check.dueAll("dropped", Check.stations(y, 7), 1, 1);
        Check.due("clashes", y.count(7), 0);
    }

    /** A part that is lost in the midst is not made up by those behind it. */
    private static void promise9Gap() {
        HeardSlots x = Check.laid("n3;h0,1;h1,2;l0,1,4;w1,1;t10,2;");
        x.slot(1);
        x.letter(2, 1, 1);
        x.slot(1);
        Check.dueAll("clashes", Check.stations(x, 5), 0, 1, 0);
        x.slot(2);
        Check.dueAll("what is sent next", Check.stations(x, 9), 0, 0, 0);
        Check.due("station(0, 11)", x.station(0, 11), 1);
        Check.due("station(2, 2): its own part was lost as well", x.station(2, 2), 1);
        Check.due("slot(1)", x.slot(1), 0);
        Check.due("station(0, 2)", x.station(0, 2), 1);
        Check.due("letterOf(0, 0, 3)", x.letterOf(0, 0, 3), 0);
    }

    private static void promise10Undo() {
        HeardSlots x = new HeardSlots();
        Check.due("undo() of none", x.undo(), NO);
        x.slot(100);
        x.letter(0, 2, 1);
        x.hear(0, 1, 1);
        x.draws(0);
        Check.due("undo() behind refused calls", x.undo(), NO);
        int[] before = Check.counts(x);
        x.letter(0, 1, 1);
        x.hear(0, 2, 1);
        x.draws(5);
        x.slot(50);
        Check.due("count(13)", x.count(13), 4);
        x.write(110);
        Check.due("undo() of slots", x.undo(), 3);
        Check.dueAll("behind it", new int[] {x.count(3), x.count(5), x.count(8)}, 0, 0, 5);
        Check.due("overheard(3, 0, 0)", x.overheard(3, 0, 0), NONE);
        Check.due("undo() of draws", x.undo(), 2);
        Check.due("count(8)", x.count(8), 0);
        Check.due("undo() of hear", x.undo(), 1);
        Check.due("pair(0, 2)", x.pair(0, 2), 1);
        Check.due("undo() of letter", x.undo(), 0);
        before[14] = 1;
        Check.dueAll("as it was, but THE TEXT stays", Check.counts(x), before);
        Check.due("undo()", x.undo(), NO);
        for (int z = 1; z <= 6; z++) {
            x.draws(z);
        }
        for (int left = 3; left >= 0; left--) {
            Check.due("undo()", x.undo(), left);
        }
        Check.due("the last 4 alone", x.count(8), 2);
        Check.due("undo()", x.undo(), NO);
        undoGivesDrawsBack();
    }

    private static void undoGivesDrawsBack() {
        HeardSlots x = Check.laid("n2;h0,1;");
        x.letter(0, 1, 1);
        Check.due("drew", x.station(0, 8), 1);
        x.undo();
        Check.due("drew", x.station(0, 8), 0);
        Check.due("wait", x.station(0, 3), NONE);
        x.letter(0, 1, 2);
        int sentFirst = x.ahead(40, 0);
        int sent = x.slot(40);
        x.undo();
        Check.due("slot(40) once more", x.slot(40), sent);
        Check.due("as looked ahead", sentFirst, sent);
    }

    private static void promise11Station() {
        HeardSlots x = Check.laid(ALL_HEAR);
        Check.due("station(-1, 0)", x.station(-1, 0), BAD);
        Check.due("station(3, 0)", x.station(3, 0), BAD);
        Check.due("station(0, -1)", x.station(0, -1), BAD);
        Check.due("station(0, 12)", x.station(0, 12), BAD);
        Check.due("station(1, 3)", x.station(1, 3), NONE);
        Check.due("station(3, 3)", x.station(3, 3), BAD);
        x.slot(6);
        int[] sender = {0, 1, 0, NONE, 0, 0, 1, 0, 1, 0, 6, 0};
        int[] third = {0, 1, 0, NONE, 6, 0, 0, 0, 0, 0, 3, 0};
        for (int what = 0; what < 12; what++) {
            Check.due("station(0, " + what + ")", x.station(0, what), sender[what]);
            Check.due("station(2, " + what + ")", x.station(2, what), third[what]);
        }
        Check.due("a letter of the still one", x.letter(2, 0, 1), 1);
        Check.due("station(2, 9): the told was in slot 6", x.station(2, 9), 0);
        x.slot(1);
        Check.due("station(2, 9)", x.station(2, 9), 3);
        Check.due("station(2, 11)", x.station(2, 11), 0);
        x.slot(1);
        Check.due("station(2, 11)", x.station(2, 11), 1);
    }

    /** 0 and 2 clash at 1 once; draws 1 of both are 48110 and 55631. */
    private static void promise11Windows() {
        HeardSlots x = Check.laid("n3;h0,1;h1,2;l0,1,1;l2,1,1;l0,1,2;w1,3;t10,7;");
        x.slot(2);
        Check.dueAll("windows doubled", Check.stations(x, 1), 2, 1, 2);
        Check.dueAll("waits", Check.stations(x, 3), 0, NONE, 1);
        Check.dueAll("what is sent next", Check.stations(x, 9), 3, 0, 0);
        x.slot(2);
        Check.dueAll("small again", Check.stations(x, 1), 1, 1, 2);
        Check.dueAll("tries", Check.stations(x, 2), 0, 0, 1);
        Check.dueAll("drew", Check.stations(x, 8), 3, 0, 2);
        Check.due("took(2, 0)", x.took(2, 0), 1);
        HeardSlots y = Check.laid("n3;h0,1;h1,2;l0,1,1;l2,1,1;w2,3;t10,7;");
        y.hear(0, 2, 1);
        y.slot(3);
        Check.dueAll("waits of 1 and 1, then both send", Check.stations(y, 2), 1, 0, 1);
        Check.dueAll("twice itself, MOST at most", Check.stations(y, 1), 3, 2, 3);
        Check.dueAll("waits by the window as it is then", Check.stations(y, 3), 48110 % 3, NONE, 55631 % 3);
    }

    private static void promise12LetterOf() {
        HeardSlots x = Check.laid("n3;h0,1;h0,2;l0,1,2;l0,2,3;l0,1,9;w1,1;");
        Check.due("letterOf(-1, 0, 0)", x.letterOf(-1, 0, 0), BAD);
        Check.due("letterOf(3, 0, 0)", x.letterOf(3, 0, 0), BAD);
        Check.due("letterOf(0, -1, 0)", x.letterOf(0, -1, 0), BAD);
        Check.due("letterOf(0, 0, -1)", x.letterOf(0, 0, -1), BAD);
        Check.due("letterOf(0, 0, 4)", x.letterOf(0, 0, 4), BAD);
        Check.due("letterOf(0, 3, 4)", x.letterOf(0, 3, 4), BAD);
        Check.due("letterOf(0, 3, 0)", x.letterOf(0, 3, 0), NONE);
        Check.due("letterOf(0, 1000000, 0)", x.letterOf(0, 1000000, 0), NONE);
        Check.due("letterOf(1, 0, 0)", x.letterOf(1, 0, 0), NONE);
        int[][] rows = {{1, 2, 0, 0}, {2, 3, 1, 0}, {1, 9, 1, 0}};
        for (int k = 0; k < 3; k++) {
            for (int what = 0; what < 4; what++) {
                Check.due("letterOf(0, " + k + ", " + what + ")", x.letterOf(0, k, what), rows[k][what]);
            }
        }
        x.slot(1);
        Check.due("letterOf(0, 0, 3)", x.letterOf(0, 0, 3), 1);
        Check.due("letterOf(0, 1, 3)", x.letterOf(0, 1, 3), 0);
        x.slot(1);
        Check.due("letterOf(0, 0, 3) while it waits", x.letterOf(0, 0, 3), 2);
        x.slot(1);
        Check.due("letterOf(0, 0, 1): the next one stands first", x.letterOf(0, 0, 1), 3);
        Check.due("letterOf(0, 0, 3)", x.letterOf(0, 0, 3), 0);
    }

    private static void overheardAre(HeardSlots x, int i, int[]... rows) {
        for (int k = 0; k < rows.length; k++) {
            for (int what = 0; what < 4; what++) {
                Check.due("overheard(" + i + ", " + k + ", " + what + ")", x.overheard(i, k, what), rows[k][what]);
            }
        }
        Check.due("overheard(" + i + ", " + rows.length + ", 0)", x.overheard(i, rows.length, 0), NONE);
    }

    private static void promise13Overheard() {
        HeardSlots x = Check.laid(ALL_HEAR);
        Check.due("overheard(-1, 0, 0)", x.overheard(-1, 0, 0), BAD);
        Check.due("overheard(3, 0, 0)", x.overheard(3, 0, 0), BAD);
        Check.due("overheard(0, -1, 0)", x.overheard(0, -1, 0), BAD);
        Check.due("overheard(0, 0, 4)", x.overheard(0, 0, 4), BAD);
        Check.due("overheard(0, 0, -1)", x.overheard(0, 0, -1), BAD);
        Check.due("overheard(0, 9, 4)", x.overheard(0, 9, 4), BAD);
        x.slot(6);
        int[][] six = {{1, 0, 1, 1}, {2, 1, 0, 2}, {3, 0, 1, 3}, {4, 0, 1, 3}, {5, 0, 1, 3}, {6, 1, 0, 4}};
        overheardAre(x, 2, six);
        overheardAre(x, 0);
        overheardAre(x, 1);
        x.letter(1, 0, 1);
        x.slot(1);
        overheardAre(x, 2, six[1], six[2], six[3], six[4], six[5], new int[] {7, 1, 0, 3});
        x.undo();
        overheardAre(x, 2, six);
        HeardSlots y = Check.laid(ONE_HIDDEN);
        y.slot(6);
        overheardAre(y, 2, new int[] {2, 1, 0, 2}, new int[] {6, 1, 0, 4});
    }

    private static void promise13Still() {
        HeardSlots x = Check.laid(ALL_HEAR);
        x.slot(1);
        Check.dueAll("still by an ask", Check.stations(x, 4), 0, 0, 6);
        HeardSlots y = Check.laid(ONE_HIDDEN);
        y.slot(2);
        Check.dueAll("still by a grant", Check.stations(y, 4), 0, 0, 6);
        HeardSlots parts = Check.laid("n3;h0,1;h1,2;h0,2;l0,1,4;w1,1;t10,5;");
        parts.slot(1);
        Check.dueAll("still by part 0 of 4", Check.stations(parts, 4), 0, 0, 5);
        parts.slot(2);
        Check.dueAll("still by part 2 of 4", Check.stations(parts, 4), 0, 0, 5);
        HeardSlots told = Check.laid("n3;h0,1;h1,2;l0,1,1;w1,1;");
        told.slot(2);
        Check.dueAll("still by a told", Check.stations(told, 4), 0, 0, 2);
        HeardSlots lost = Check.laid("n3;h0,1;h0,2;l0,1,9;l0,2,1;w1,1;t3,1;");
        lost.slot(1);
        Check.dueAll("still by an ask of 9", Check.stations(lost, 4), 0, 0, 12);
        lost.slot(11);
        Check.due("the first one is sent", lost.station(0, 6), 1);
        lost.slot(1);
        Check.due("station(1, 4): the part of slot 14 is ahead", lost.station(1, 4), 0);
        lost.slot(1);
        Check.dueAll("still of both", Check.stations(lost, 4), 0, 15, 12);
        Check.due("a told is owed though it was still", lost.station(2, 9), 4);
    }

    /** Asks of 0 and 3 clash at 1 and are given up; 2 has overheard that of 0 and is still up to slot 6. */
    private static HeardSlots stillUpToSix() {
        HeardSlots x = Check.laid("n4;h0,1;h0,2;h1,3;l0,1,3;l3,1,3;w1,1;t3,1;");
        x.slot(2);
        Check.dueAll("dropped", Check.stations(x, 7), 1, 0, 0, 1);
        Check.dueAll("still", Check.stations(x, 4), 0, 0, 6, 0);
        return x;
    }

    private static void promise13StillUpTo() {
        HeardSlots begins = stillUpToSix();
        begins.letter(2, 0, 1);
        begins.slot(3);
        Check.due("station(2, 9) in slot 6", begins.station(2, 9), 0);
        begins.slot(1);
        Check.due("station(2, 9) in slot 7", begins.station(2, 9), 3);
        HeardSlots early = stillUpToSix();
        early.slot(3);
        early.letter(0, 2, 3);
        early.slot(1);
        Check.due("no grant of an ask in slot 6", early.station(2, 9), 0);
        HeardSlots later = stillUpToSix();
        later.slot(4);
        later.letter(0, 2, 3);
        later.slot(1);
        Check.due("a grant of an ask in slot 7", later.station(2, 9), 2);
    }

    private static void promise14Pair() {
        HeardSlots x = Check.laid("n5;h0,1;h1,2;h2,3;");
        Check.due("pair(0, 1)", x.pair(0, 1), 0);
        Check.due("pair(1, 0)", x.pair(1, 0), 0);
        Check.due("pair(0, 2)", x.pair(0, 2), 1);
        Check.due("pair(2, 0)", x.pair(2, 0), 1);
        Check.due("pair(0, 3)", x.pair(0, 3), 2);
        Check.due("pair(4, 0)", x.pair(4, 0), 2);
        Check.due("pair(4, 4)", x.pair(4, 4), BAD);
        Check.due("pair(0, 5)", x.pair(0, 5), BAD);
        Check.due("pair(-1, 0)", x.pair(-1, 0), BAD);
        x.hear(0, 2, 1);
        Check.due("pair(0, 2): heard, though 1 hears both", x.pair(0, 2), 0);
        Check.due("pair(0, 3)", x.pair(0, 3), 1);
    }

    private static void promise15Draw() {
        HeardSlots x = new HeardSlots();
        Check.due("draw(0, 0)", x.draw(0, 0), 1);
        Check.due("draw(3, 1)", x.draw(3, 1), 48662);
        // x is 3571 * 999 + 1 = 3567430, which is 29296 modulo 65521
        Check.due("draw(0, 999)", x.draw(0, 999), (int) (29296L * 29296L % 65521L));
        Check.due("draw(0, 1000)", x.draw(0, 1000), BAD);
        Check.due("draw(0, -1)", x.draw(0, -1), BAD);
        Check.due("draw(4, 0)", x.draw(4, 0), BAD);
        Check.due("draw(-1, 0)", x.draw(-1, 0), BAD);
        x.draws(9999);
        // x is 7919 * 9999 + 6151 * 3 + 3571 * 999 + 1 = 82767964, which is 14941 modulo 65521
        Check.due("draw(3, 999) by 9999", x.draw(3, 999), (int) (14941L * 14941L % 65521L));
        x.slot(10);
        Check.due("draw(0, 0) by 9999", x.draw(0, 0), (int) (79182082L * 79182082L % 65521L));
    }

    private static void promise16Took() {
        HeardSlots x = Check.laid("n3;h0,1;h1,2;l0,1,1;l2,1,1;w1,3;t10,7;");
        Check.due("took(0, 0)", x.took(0, 0), BAD);
        Check.due("took(10, 0)", x.took(10, 0), BAD);
        Check.due("took(1, -1)", x.took(1, -1), BAD);
        Check.due("took(1, 3)", x.took(1, 3), BAD);
        Check.due("took(9, 0)", x.took(9, 0), 0);
        Check.due("took(1, 1)", x.took(1, 1), NONE);
        x.slot(4);
        Check.dueAll("sent", Check.stations(x, 6), 1, 0, 0);
        Check.dueAll("took(.., 0)", new int[] {x.took(1, 0), x.took(2, 0), x.took(3, 0)}, 0, 1, 0);
        Check.dueAll("took(.., 1)", new int[] {x.took(1, 1), x.took(2, 1), x.took(3, 1)}, 2, 2, NONE);
        Check.dueAll("took(.., 2)", new int[] {x.took(1, 2), x.took(2, 2), x.took(9, 2)}, NONE, 2, 2);
        HeardSlots y = Check.laid(BOTH_HIDDEN);
        y.slot(6);
        Check.due("dropped ones took nothing", y.took(1, 1), NONE);
    }

    private static void promise17Ahead() {
        HeardSlots x = Check.laid("n3;h0,1;h1,2;l0,1,1;l0,1,1;l2,1,9;w1,1;t10,2;");
        Check.due("ahead(0, 0)", x.ahead(0, 0), BAD);
        Check.due("ahead(100, 0)", x.ahead(100, 0), BAD);
        Check.due("ahead(1, -1)", x.ahead(1, -1), BAD);
        Check.due("ahead(1, 6)", x.ahead(1, 6), BAD);
        int[] answers = new int[6];
        // 0 and 2 begin in slot 1 and clash at 1; 0 tries again in slots 3, 5 and 7, under the parts of 2
        for (int what = 0; what < 6; what++) {
            answers[what] = x.ahead(8, what);
        }
        Check.dueAll("ahead(8, ..)", answers, 0, 2, 4, 0, 0, 1);
        Check.due("ahead(1, 2)", x.ahead(1, 2), 1);
        Check.dueAll("nothing changes", Check.counts(x), 3, 2, 1, 0, 3, 0, 0, 0, 0, 1, 1, 10, 2, 0, 45);
        HeardSlots fair = Check.laid("n4;h0,1;h2,3;l0,1,1;l0,1,1;l2,3,1;w1,1;");
        Check.dueAll("most and least", new int[] {fair.ahead(99, 3), fair.ahead(99, 4)}, 2, 0);
        fair.slot(2);
        Check.dueAll("in them alone", new int[] {fair.ahead(99, 0), fair.ahead(99, 3), fair.ahead(99, 4)}, 1, 1, 0);
        HeardSlots both = Check.laid(TWO_SHORT);
        both.slot(1);
        both.letter(1, 0, 1);
        Check.dueAll("the told alone", new int[] {both.ahead(1, 0), both.ahead(1, 3), both.ahead(1, 4)}, 1, 1, 0);
        Check.dueAll("both of them", new int[] {both.ahead(3, 0), both.ahead(3, 3), both.ahead(3, 4)}, 2, 1, 1);
    }

    private static void promise18Soon() {
        Check.due("soon() of a short one", Check.laid(TWO_SHORT).soon(), 2);
        Check.due("soon() of one asked for", Check.laid(TWO_ASKED).soon(), 6);
        Check.due("soon() without letters", Check.laid("n2;").soon(), NONE);
        Check.due("soon() where all are dropped", Check.laid(BOTH_HIDDEN).soon(), NONE);
        HeardSlots x = Check.laid(TWO_ASKED);
        for (int left = 6; left >= 1; left--) {
            Check.due("soon()", x.soon(), left);
            Check.due("slots stay", x.count(3), 6 - left);
            Check.due("no change by it", x.count(13), Math.min(4, 6 - left));
            x.slot(1);
        }
        Check.due("soon() behind the last", x.soon(), NONE);
        HeardSlots late = Check.laid("n3;h0,1;h1,2;l0,1,9;l2,1,9;w16,64;t10,7;z17;");
        late.slot(2);
        Check.due("soon(), 100 slots off", late.soon(), NONE);
        late.slot(1);
        Check.due("soon(), 99 slots off", late.soon(), 99);
        Check.dueAll("ahead", new int[] {late.ahead(98, 0), late.ahead(99, 0)}, 0, 1);
        Check.due("slot(98)", late.slot(98), 0);
        Check.due("slot(1)", late.slot(1), 1);
    }

    private static void promise19Count() {
        HeardSlots x = Check.laid("n5;h0,1;h1,2;h2,3;l0,1,2;l0,1,2;l3,2,9;w2,40;t9,6;z77;");
        Check.due("count(-1)", x.count(-1), BAD);
        Check.due("count(15)", x.count(15), BAD);
        Check.dueAll("counts", Check.counts(x), 5, 3, 2, 0, 3, 0, 0, 0, 77, 2, 40, 9, 6, 0, 54);
        int sent = x.slot(99);
        Check.due("sent", x.count(5), sent);
        Check.due("letters", x.count(4), 3 - x.count(5) - x.count(6));
        Check.due("slots", x.count(3), 99);
        Check.due("undoable", x.count(13), 1);
        HeardSlots y = Check.laid(BOTH_HIDDEN);
        y.slot(6);
        Check.dueAll("counts", Check.counts(y), 3, 2, 1, 6, 0, 0, 2, 3, 0, 1, 1, 10, 3, 1, 38);
    }
}
