import java.math.BigInteger;

/** Promises 11 to 19: each bound of what is asked, the last value answered and the first that is BAD or NONE. */
public final class AskBoundsTest {
    private static final int BAD = HeardSlots.BAD, NO = HeardSlots.NO, NONE = HeardSlots.NONE;

    private static final String BUSY =
        "n5;h0,1;h1,2;h2,3;h0,4;l0,1,5;l2,1,5;l3,2,1;l1,0,2;l4,0,9;l3,2,8;l3,2,1;w2,8;t4,3;z6;";

    private AskBoundsTest() {
    }

    public static void main(String[] args) {
        stationIsOneOfThem();
        stationWhatIs0To11();
        waitIsNoneWithoutLetters();
        hearsAsBitsOfNoneAndAll();
        letterOfIsOneOfThem();
        letterOfNoneAndOf6();
        letterOfAsked();
        letterOfTheNextOnes();
        letterOfPartsOfTheTry();
        overheardIsOneOfThem();
        overheardHolds6();
        pairOfStations();
        pairHeardHiddenApart();
        drawOfStations();
        drawIs0To999();
        drawIsModulo65521();
        tookIs1To9();
        tookNoneAtFirst();
        tookSevenAtMost();
        tookLeastAndGreatest();
        aheadIs1To99();
        aheadWhatIs0To5();
        aheadIsAsTheyWouldGoBy();
        aheadMostAndLeast();
        aheadBeyondTheLastSlot();
        soonIs1To99();
        countIs0To14();
        countOfNoneAndOfAll();
        askingChangesNothing();
        Check.finish("AskBoundsTest");
    }

    private static void stationIsOneOfThem() {
        HeardSlots x = Check.laid("n6;h0,5;l5,0,1;");
        for (int i : Check.NO_STATIONS) {
            for (int what = 0; what < 12; what++) {
                Check.due("station(" + i + ", " + what + ")", x.station(i, what), BAD);
            }
        }
        Check.dueAll("letters", Check.stations(x, 0), 0, 0, 0, 0, 0, 1);
        HeardSlots two = Check.laid("n2;");
        Check.dueAll("of two", new int[] {two.station(0, 0), two.station(1, 0), two.station(2, 0)}, 0, 0, BAD);
        HeardSlots first = new HeardSlots();
        Check.dueAll("of four", new int[] {first.station(3, 0), first.station(4, 0)}, 1, BAD);
    }

    private static void stationWhatIs0To11() {
        HeardSlots x = new HeardSlots();
        for (int what : new int[] {-1, 12, 13, 256, 65536, Integer.MIN_VALUE, Integer.MAX_VALUE}) {
            Check.due("station(0, " + what + ")", x.station(0, what), BAD);
        }
        int[] due = {1, 4, 0, 1, 0, 0, 0, 0, 1, 0, 2, 0};
        for (int what = 0; what < 12; what++) {
            Check.due("station(0, " + what + ")", x.station(0, what), due[what]);
        }
    }

    private static void waitIsNoneWithoutLetters() {
        HeardSlots x = Check.laid("n2;h0,1;l0,1,1;w1,1;");
        Check.dueAll("waits", Check.stations(x, 3), 0, NONE);
        x.slot(1);
        Check.dueAll("while it is under way", Check.stations(x, 3), 0, NONE);
        x.slot(1);
        Check.dueAll("when it is sent", Check.stations(x, 3), NONE, NONE);
        x.letter(0, 1, 1);
        Check.dueAll("with one more", Check.stations(x, 3), 0, NONE);
        Check.due("of no station", x.station(2, 3), BAD);
    }

    private static void hearsAsBitsOfNoneAndAll() {
        Check.dueAll("none", Check.stations(Check.laid("n6;"), 10), 0, 0, 0, 0, 0, 0);
        HeardSlots star = Check.laid("n6;h0,1;h2,0;h0,3;h4,0;h0,5;");
        Check.dueAll("a star", Check.stations(star, 10), 62, 1, 1, 1, 1, 1);
    }

    /** A question of a row of a station's: who, which place in the row, what. */
    private interface RowAsked {
        int of(int i, int k, int what);
    }

    /** Of six stations; the row of the first one named has one place, that of the second one none. */
    private static void rowBounds(String name, RowAsked row, int one, int none) {
        for (int i : Check.NO_STATIONS) {
            Check.due(name + "(" + i + ", 0, 0)", row.of(i, 0, 0), BAD);
            Check.due(name + "(" + i + ", 9, 0)", row.of(i, 9, 0), BAD);
        }
        for (int k : new int[] {-1, Integer.MIN_VALUE}) {
            Check.due(name + " of one, k " + k, row.of(one, k, 0), BAD);
            Check.due(name + " of none, k " + k, row.of(none, k, 0), BAD);
        }
        for (int what : new int[] {-1, 4, 256, Integer.MIN_VALUE, Integer.MAX_VALUE}) {
            Check.due(name + ", what " + what, row.of(one, 0, what), BAD);
            Check.due(name + " behind the last, what " + what, row.of(one, 1, what), BAD);
            Check.due(name + " of none, what " + what, row.of(none, 0, what), BAD);
        }
        for (int what = 0; what < 4; what++) {
            Check.due(name + " behind the last, what " + what, row.of(one, 1, what), NONE);
            Check.due(name + " of none, what " + what, row.of(none, 0, what), NONE);
        }
    }

    private static int[] allFour(RowAsked row, int i) {
        return new int[] {row.of(i, 0, 0), row.of(i, 0, 1), row.of(i, 0, 2), row.of(i, 0, 3)};
    }

    private static void letterOfIsOneOfThem() {
        HeardSlots x = Check.laid("n6;h0,5;l5,0,1;l0,5,3;");
        rowBounds("letterOf", x::letterOf, 5, 1);
        rowBounds("letterOf", x::letterOf, 0, 4);
        Check.dueAll("of the first one", allFour(x::letterOf, 0), 5, 3, 1, 0);
        Check.dueAll("of the last one", allFour(x::letterOf, 5), 0, 1, 0, 0);
    }

    private static void letterOfNoneAndOf6() {
        for (int letters = 0; letters <= 6; letters++) {
            HeardSlots x = Check.laid("n2;h0,1;" + "l1,0,8;".repeat(letters));
            for (int k = 0; k <= 8; k++) {
                for (int what = 0; what < 4; what++) {
                    int due = new int[] {0, 8, 1, 0}[what];
                    Check.due("letterOf(1, " + k + ", " + what + ") of " + letters, x.letterOf(1, k, what),
                        k < letters ? due : NONE);
                }
            }
            Check.due("letterOf far behind", x.letterOf(1, Integer.MAX_VALUE, 0), NONE);
        }
    }

    /** LONG just below T, T itself, just above it. */
    private static void letterOfAsked() {
        for (int t = 1; t <= 10; t++) {
            for (int l = 1; l <= 9; l++) {
                HeardSlots x = Check.laid("n2;h0,1;l0,1," + l + ";w1,1;t" + t + ",5;");
                Check.due("asked for, T " + t + " and LONG " + l, x.letterOf(0, 0, 2), l >= t ? 1 : 0);
                Check.due("begins with, T " + t + " and LONG " + l, x.station(0, 9), l >= t ? 1 : 3);
                Check.due("sent in, T " + t + " and LONG " + l, x.soon(), l >= t ? l + 3 : l + 1);
            }
        }
    }

    /** The first of six is sent or dropped: the others move up, and k 5 is none any more. */
    private static void letterOfTheNextOnes() {
        String row = "l0,1,1;l0,2,2;l0,3,3;l0,1,4;l0,2,5;l0,3,6;";
        HeardSlots sent = Check.laid("n4;h0,1;h0,2;h0,3;" + row + "w1,1;t10,5;");
        Check.due("slot(2)", sent.slot(2), 1);
        HeardSlots dropped = Check.laid("n4;h0,1;h0,2;h0,3;" + row + "l1,0,1;w1,1;t10,1;");
        Check.due("slot(2)", dropped.slot(2), 0);
        for (HeardSlots x : new HeardSlots[] {sent, dropped}) {
            for (int k = 0; k < 5; k++) {
                Check.due("to whom goes " + k, x.letterOf(0, k, 0), (k + 1) % 3 + 1);
                Check.due("how long is " + k, x.letterOf(0, k, 1), k + 2);
            }
            Check.dueAll("behind them", new int[] {x.letterOf(0, 5, 0), x.station(0, 0)}, NONE, 5);
        }
    }

    private static void letterOfPartsOfTheTry() {
        for (int l = 1; l <= 9; l++) {
            HeardSlots x = Check.laid("n2;h0,1;l0,1," + l + ";l0,1,9;w1,1;t10,5;");
            for (int parts = 0; parts <= l; parts++) {
                Check.due("parts of " + l, x.letterOf(0, 0, 3), parts);
                Check.due("waiting behind the last part", x.station(0, 11), parts == l ? 1 : 0);
                Check.due("parts of the second one", x.letterOf(0, 1, 3), 0);
                x.slot(1);
            }
            Check.due("the second one is first now", x.letterOf(0, 0, 1), 9);
            Check.due("none of its parts", x.letterOf(0, 0, 3), 0);
        }
        HeardSlots fails = Check.laid("n2;h0,1;l0,1,2;l1,0,2;w1,1;t10,5;");
        fails.slot(2);
        Check.due("parts of the try that goes on", fails.letterOf(0, 0, 3), 2);
        fails.slot(1);
        Check.due("parts behind a try that failed", fails.letterOf(0, 0, 3), 0);
    }

    private static void overheardIsOneOfThem() {
        HeardSlots x = Check.laid("n6;h0,1;h0,5;l0,1,1;w1,1;");
        x.slot(1);
        rowBounds("overheard", x::overheard, 5, 0);
        Check.dueAll("of the last one", allFour(x::overheard, 5), 1, 0, 1, 3);
        HeardSlots first = Check.laid("n6;h5,4;h5,0;l5,4,1;w1,1;");
        first.slot(1);
        rowBounds("overheard", first::overheard, 0, 5);
        Check.dueAll("of the first one", allFour(first::overheard, 0), 1, 5, 4, 3);
    }

    /** 2 overhears an ask, a grant, nine parts and a told, in slots 1 to 12. */
    private static void overheardHolds6() {
        HeardSlots x = Check.laid("n3;h0,1;h1,2;h0,2;l0,1,9;w1,1;");
        for (int slot = 0; slot <= 13; slot++) {
            int all = Math.min(slot, 12);
            int held = Math.min(all, 6);
            for (int k = 0; k < 8; k++) {
                int of = all - held + k + 1;
                boolean answered = of == 2 || of == 12;
                int kind = of == 1 ? 1 : of == 2 ? 2 : of == 12 ? 4 : 3;
                int[] due = {of, answered ? 1 : 0, answered ? 0 : 1, kind};
                for (int what = 0; what < 4; what++) {
                    Check.due("overheard(2, " + k + ", " + what + ") behind slot " + slot, x.overheard(2, k, what),
                        k < held ? due[what] : NONE);
                }
            }
            Check.due("overheard far behind", x.overheard(2, Integer.MAX_VALUE, 0), NONE);
            Check.due("what is to oneself is not overheard", x.overheard(1, 0, 0), NONE);
            x.slot(1);
        }
    }

    private static void pairOfStations() {
        HeardSlots x = Check.laid("n6;h0,5;");
        for (int i : Check.NO_STATIONS) {
            Check.due("pair(" + i + ", 1)", x.pair(i, 1), BAD);
            Check.due("pair(1, " + i + ")", x.pair(1, i), BAD);
            Check.due("pair(" + i + ", " + i + ")", x.pair(i, i), BAD);
        }
        for (int i = 0; i < 6; i++) {
            Check.due("pair(" + i + ", " + i + ")", x.pair(i, i), BAD);
        }
        Check.dueAll("first and last", new int[] {x.pair(0, 5), x.pair(5, 0)}, 0, 0);
        HeardSlots two = Check.laid("n2;h0,1;");
        Check.dueAll("of two", new int[] {two.pair(0, 1), two.pair(0, 2), two.pair(2, 1)}, 0, BAD, BAD);
    }

    private static void pairHeardHiddenApart() {
        HeardSlots x = Check.laid("n6;h0,1;h1,2;h2,3;h3,4;h4,5;");
        for (int i = 0; i < 6; i++) {
            for (int j = 0; j < 6; j++) {
                int apart = Math.abs(i - j);
                int due = apart == 0 ? BAD : Math.min(apart - 1, 2);
                Check.due("pair(" + i + ", " + j + ") of a row", x.pair(i, j), due);
            }
        }
        Check.due("hidden pairs", x.count(2), 4);
        x.hear(0, 2, 1);
        Check.due("heard, though some station hears both", x.pair(0, 2), 0);
        Check.due("hidden pairs", x.count(2), 4);
    }

    private static void drawOfStations() {
        HeardSlots x = Check.laid("n6;");
        for (int i : Check.NO_STATIONS) {
            Check.due("draw(" + i + ", 0)", x.draw(i, 0), BAD);
        }
        Check.due("draw(5, 0)", x.draw(5, 0), drawn(0, 5, 0));
        Check.dueAll("of two", new int[] {Check.laid("n2;").draw(1, 0), Check.laid("n2;").draw(2, 0)}, 41487, BAD);
    }

    private static void drawIs0To999() {
        HeardSlots x = Check.laid("n6;z9999;");
        for (int k : new int[] {-1, 1000, 65536, Integer.MIN_VALUE, Integer.MAX_VALUE}) {
            Check.due("draw(0, " + k + ")", x.draw(0, k), BAD);
            Check.due("draw(5, " + k + ")", x.draw(5, k), BAD);
        }
        for (int i = 0; i < 6; i++) {
            for (int k : new int[] {0, 1, 998, 999}) {
                Check.due("draw(" + i + ", " + k + ")", x.draw(i, k), drawn(9999, i, k));
            }
        }
    }

    private static int drawn(int z, int i, int k) {
        BigInteger x = BigInteger.valueOf(7919).multiply(BigInteger.valueOf(z))
            .add(BigInteger.valueOf(6151).multiply(BigInteger.valueOf(i)))
            .add(BigInteger.valueOf(3571).multiply(BigInteger.valueOf(k))).add(BigInteger.ONE);
        return x.multiply(x).mod(BigInteger.valueOf(65521)).intValueExact();
    }

    /** Where x is a little below, at and above a multiple of 65521, and where x times x is beyond an int. */
    private static void drawIsModulo65521() {
        for (int z : new int[] {0, 1, 3, 4, 4999, 9998, 9999}) {
            HeardSlots x = Check.laid("n6;z" + z + ";");
            for (int i = 0; i < 6; i++) {
                for (int k = 0; k < 1000; k++) {
                    Check.due("draw(" + i + ", " + k + ") by " + z, x.draw(i, k), drawn(z, i, k));
                }
            }
        }
        Check.due("x is a multiple", Check.laid("n6;z3323;").draw(4, 0), 0);
        Check.due("x is 1 less than one", Check.laid("n6;z7097;").draw(2, 1), 1);
        Check.due("x is 1", Check.laid("n6;").draw(0, 0), 1);
    }

    private static void tookIs1To9() {
        for (HeardSlots x : new HeardSlots[] {new HeardSlots(), sevenTries(7)}) {
            for (int t : new int[] {0, 10, -1, 256 + 1, Integer.MIN_VALUE, Integer.MAX_VALUE}) {
                for (int what = 0; what <= 2; what++) {
                    Check.due("took(" + t + ", " + what + ")", x.took(t, what), BAD);
                }
            }
            for (int what : new int[] {-1, 3, 256, Integer.MIN_VALUE, Integer.MAX_VALUE}) {
                Check.due("took(1, " + what + ")", x.took(1, what), BAD);
                Check.due("took(9, " + what + ")", x.took(9, what), BAD);
            }
        }
    }

    private static void tookNoneAtFirst() {
        HeardSlots x = new HeardSlots();
        for (int t = 1; t <= 9; t++) {
            Check.dueAll("took(" + t + ", ..)", new int[] {x.took(t, 0), x.took(t, 1), x.took(t, 2)}, 0, NONE, NONE);
        }
    }

    /**
     * 0 begins in slots 1, 3, 5, .. and clashes at 1 with 2 (nine parts to 3 from slot 1 on) and 4 (three to 5 from
     * slot 10 on): six tries fail, the seventh, in slot 13, does not.
     */
    private static HeardSlots sevenTries(int mostTries) {
        HeardSlots x = Check.laid("n6;h0,1;h1,2;h2,3;h1,4;h4,5;l0,1,1;l2,3,9;w1,1;t10," + mostTries + ";");
        x.slot(9);
        Check.due("letter(4, 5, 3)", x.letter(4, 5, 3), 1);
        x.slot(6);
        return x;
    }

    private static void tookSevenAtMost() {
        HeardSlots x = sevenTries(7);
        Check.dueAll("sent", Check.stations(x, 6), 1, 0, 1, 0, 1, 0);
        Check.due("clashes of 1", x.station(1, 5), 6);
        int[] many = {2, 0, 0, 0, 0, 0, 1, 0, 0};
        int[] orMore = {1, 7, 7, 7, 7, 7, 7, NONE, NONE};
        int[] orLess = {1, 1, 1, 1, 1, 1, 7, 7, 7};
        for (int t = 1; t <= 9; t++) {
            Check.dueAll("took(" + t + ", ..)", new int[] {x.took(t, 0), x.took(t, 1), x.took(t, 2)},
                many[t - 1], orMore[t - 1], orLess[t - 1]);
        }
        HeardSlots dropped = sevenTries(6);
        Check.dueAll("dropped with R 6", Check.stations(dropped, 7), 1, 0, 0, 0, 0, 0);
        Check.dueAll("sent with R 6", Check.stations(dropped, 6), 0, 0, 1, 0, 1, 0);
        Check.due("took 7 with R 6", dropped.took(7, 0), 0);
        Check.dueAll("took with R 6", new int[] {dropped.took(2, 1), dropped.took(9, 2)}, NONE, 1);
    }

    /** Only one that took 2: on both sides of it none. */
    private static void tookLeastAndGreatest() {
        HeardSlots x = Check.laid("n3;h0,1;h1,2;l0,1,1;l2,1,1;w1,3;t10,7;");
        x.slot(3);
        Check.due("took(2, 1) ahead of the told", x.took(2, 1), NONE);
        x.slot(1);
        for (int t = 1; t <= 9; t++) {
            Check.dueAll("took(" + t + ", ..)", new int[] {x.took(t, 0), x.took(t, 1), x.took(t, 2)},
                t == 2 ? 1 : 0, t <= 2 ? 2 : NONE, t >= 2 ? 2 : NONE);
        }
    }

    private static void aheadIs1To99() {
        HeardSlots x = Check.laid("n2;h0,1;l0,1,1;l0,1,9;w1,1;t10,5;");
        for (int n : new int[] {0, 100, -1, 256 + 1, Integer.MIN_VALUE, Integer.MAX_VALUE}) {
            for (int what = 0; what < 6; what++) {
                Check.due("ahead(" + n + ", " + what + ")", x.ahead(n, what), BAD);
            }
        }
        // part and told in slots 1 and 2; 0 has heard the told, so that nine parts and a told begin in slot 4
        for (int n = 1; n <= 99; n++) {
            int sent = n >= 13 ? 2 : n >= 2 ? 1 : 0;
            Check.dueAll("ahead(" + n + ", ..)", new int[] {x.ahead(n, 0), x.ahead(n, 3), x.ahead(n, 4), x.ahead(n, 5)},
                sent, sent, 0, 2 - sent);
        }
    }

    private static void aheadWhatIs0To5() {
        HeardSlots x = new HeardSlots();
        for (int what : new int[] {-1, 6, 256, Integer.MIN_VALUE, Integer.MAX_VALUE}) {
            Check.due("ahead(1, " + what + ")", x.ahead(1, what), BAD);
            Check.due("ahead(99, " + what + ")", x.ahead(99, what), BAD);
        }
        int[] due = {4, 0, 1, 1, 1, 0};
        for (int what = 0; what < 6; what++) {
            Check.due("ahead(99, " + what + ")", x.ahead(99, what), due[what]);
        }
        HeardSlots none = Check.laid("n2;");
        for (int what = 0; what < 6; what++) {
            Check.due("ahead(99, " + what + ") without letters", none.ahead(99, what), 0);
        }
    }

    /** From each slot of a busy run: what is answered ahead is what comes when the slots go by. */
    private static void aheadIsAsTheyWouldGoBy() {
        for (int slots = 1; slots <= 60; slots++) {
            for (int n : new int[] {1, 2, 7, 30, 98, 99}) {
                HeardSlots x = Check.laid(BUSY);
                x.slot(slots);
                int[] due = new int[6];
                for (int what = 0; what < 6; what++) {
                    due[what] = x.ahead(n, what);
                }
                int[] old = Check.counts(x);
                int[] oldSent = Check.stations(x, 6);
                Check.due("slot(" + n + ") as looked ahead", x.slot(n), due[0]);
                int[] now = Check.counts(x);
                int most = 0;
                int least = Integer.MAX_VALUE;
                for (int i = 0; i < oldSent.length; i++) {
                    most = Math.max(most, x.station(i, 6) - oldSent[i]);
                    least = Math.min(least, x.station(i, 6) - oldSent[i]);
                }
                Check.dueAll("ahead(" + n + ", ..) behind " + slots, due,
                    now[5] - old[5], now[6] - old[6], now[7] - old[7], most, least, now[4]);
            }
        }
    }

    /** Whichever station it is that sends one letter more or one less than all the others. */
    private static void aheadMostAndLeast() {
        for (int odd = 0; odd < 6; odd++) {
            for (int others = 0; others <= 2; others++) {
                for (int own = Math.max(0, others - 1); own <= others + 1; own++) {
                    StringBuilder text = new StringBuilder("n6;h0,1;h2,3;h4,5;");
                    for (int i = 0; i < 6; i++) {
                        text.append(("l" + i + "," + (i ^ 1) + ",1;").repeat(i == odd ? own : others));
                    }
                    HeardSlots x = Check.laid(text + "w4,64;t10,7;z1;");
                    Check.dueAll("sent, most, least", new int[] {x.ahead(99, 0), x.ahead(99, 3), x.ahead(99, 4)},
                        5 * others + own, Math.max(own, others), Math.min(own, others));
                }
            }
        }
    }

    private static void aheadBeyondTheLastSlot() {
        HeardSlots x = Check.laid("n2;h0,1;w1,1;");
        for (int k = 0; k < 101; k++) {
            x.slot(99);
        }
        x.letter(0, 1, 1);
        Check.due("slot(1)", x.slot(1), NO);
        Check.dueAll("ahead", new int[] {x.ahead(1, 0), x.ahead(2, 0), x.ahead(99, 5), x.ahead(100, 0)}, 0, 1, 0, BAD);
        Check.due("soon()", x.soon(), 2);
        Check.due("station(0, 9)", x.station(0, 9), 3);
        Check.due("slots", x.count(3), 9999);
    }

    private static void soonIs1To99() {
        Check.due("soon() without letters", Check.laid("n2;").soon(), NONE);
        HeardSlots next = Check.laid("n2;h0,1;l0,1,1;w1,1;");
        Check.due("soon()", next.soon(), 2);
        next.slot(1);
        Check.due("soon(): in the next slot", next.soon(), 1);
        next.slot(1);
        Check.due("soon(): behind the last letter", next.soon(), NONE);
        HeardSlots late = Check.laid("n3;h0,1;h1,2;l0,1,9;l2,1,9;w16,64;t10,7;z17;");
        late.slot(2);
        Check.dueAll("100 slots off", new int[] {late.soon(), late.ahead(99, 0)}, NONE, 0);
        late.slot(1);
        Check.dueAll("99 slots off", new int[] {late.soon(), late.ahead(98, 0), late.ahead(99, 0)}, 99, 0, 1);
        late.slot(1);
        Check.dueAll("98 slots off", new int[] {late.soon(), late.ahead(97, 0), late.ahead(98, 0)}, 98, 0, 1);
    }

    private static void countIs0To14() {
        HeardSlots x = new HeardSlots();
        for (int what : new int[] {-1, 15, 16, 256, 65536, Integer.MIN_VALUE, Integer.MAX_VALUE}) {
            Check.due("count(" + what + ")", x.count(what), BAD);
        }
        Check.due("count(0)", x.count(0), 4);
        Check.due("count(14)", x.count(14), 0);
    }

    private static void countOfNoneAndOfAll() {
        Check.dueAll("of none", Check.counts(Check.laid("n2;")), 2, 0, 0, 0, 0, 0, 0, 0, 0, 4, 32, 3, 5, 0, 3);
        HeardSlots x = Check.laid("n6;h0,1;h0,2;h0,3;h0,4;h0,5;w16,64;t10,7;z9999;");
        for (int i = 0; i < 6; i++) {
            for (int k = 1; k <= 6; k++) {
                Check.due("letter", x.letter(i, i == 0 ? 1 : 0, 9), k);
            }
        }
        Check.dueAll("of all", Check.counts(x), 6, 5, 10, 0, 36, 0, 0, 0, 9999, 16, 64, 10, 7, 4, 47);
    }

    /** Every question, between every two slots, and a twin that is asked nothing. */
    private static void askingChangesNothing() {
        for (int slots = 1; slots <= 80; slots += 13) {
            int n = slots;
            Twins.alikeFromThenOn("asked between slots", () -> {
                HeardSlots x = Check.laid(BUSY);
                for (int k = 0; k < n; k++) {
                    Twins.look(x);
                    x.slot(1);
                }
                Twins.look(x);
                return x;
            }, () -> {
                HeardSlots x = Check.laid(BUSY);
                for (int k = 0; k < n; k++) {
                    x.slot(1);
                }
                return x;
            });
        }
    }
}
