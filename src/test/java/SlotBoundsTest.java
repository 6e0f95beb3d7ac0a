/** Promise 9 and what it rests on (part 2 of the document): each bound in sending, hearing, taking, failing. */
public final class SlotBoundsTest {
    private static final int NO = HeardSlots.NO, NONE = HeardSlots.NONE;
    private static final int LETTERS = 0, WINDOW = 1, TRIES = 2, WAIT = 3, SENT = 6, DROPPED = 7, DREW = 8;

    private SlotBoundsTest() {
    }

    public static void main(String[] args) {
        waitIsBelowTheWindow();
        waitOf0Begins();
        waitIsNotLessWhileNotFree();
        waitIsNotLessWhileItAnswers();
        freeBehindASilentSlot();
        freeAboveStill();
        grantAboveStill();
        oneSendsOrMore();
        oneThatSendsHearsNothing();
        stillByAsk();
        stillByGrant();
        stillByEachPart();
        stillByTold();
        stillIsNeverLess();
        partsWithoutAGap();
        partsOfTwoTries();
        waitingForOneSlotAlone();
        triesAreRAtMost();
        windowsDoubleAndAreSmallAgain();
        sentInThem();
        Check.finish("SlotBoundsTest");
    }

    /** DRAW modulo WINDOW: from 0 to WINDOW less 1, and so many slots go by ahead of the first part. */
    private static void waitIsBelowTheWindow() {
        for (int window : new int[] {1, 2, 15, 16}) {
            boolean[] seen = new boolean[window];
            for (int z = 0; z < 120; z++) {
                HeardSlots x = Check.laid("n2;h0,1;l0,1,1;w" + window + ",64;z" + z + ";");
                int wait = x.station(0, WAIT);
                Check.due("wait by DRAW 0", wait, x.draw(0, 0) % window);
                Check.due("soon()", x.soon(), wait + 2);
                seen[wait] = true;
            }
            Check.due("a wait of 0 by " + window, seen[0] ? 1 : 0, 1);
            Check.due("the longest wait by " + window, seen[window - 1] ? 1 : 0, 1);
        }
    }

    private static void waitOf0Begins() {
        HeardSlots x = new HeardSlots();
        Check.dueAll("wait 1 sends nothing", new int[] {x.station(0, WAIT), x.station(0, 9)}, 1, 0);
        x.slot(1);
        Check.dueAll("wait 0 sends", new int[] {x.station(0, WAIT), x.station(0, 9)}, 0, 1);
        x.slot(1);
        Check.dueAll("and waits for the grant",
            new int[] {x.station(0, WAIT), x.station(0, 9), x.station(0, 11)}, 0, 0, 1);
    }

    /** 2 waits 2; 1 waits 0 and sends nine parts to 0, in slots 1 to 9, and 0 tells it in slot 10. */
    private static void waitIsNotLessWhileNotFree() {
        HeardSlots x = Check.laid("n3;h0,1;h1,2;h0,2;l1,0,9;l2,0,1;w3,3;t10,5;z2;");
        Check.dueAll("waits", Check.stations(x, WAIT), NONE, 0, 2);
        x.slot(1);
        Check.due("less in slot 1, as nobody sent ahead of it", x.station(2, WAIT), 1);
        for (int slot = 2; slot <= 11; slot++) {
            x.slot(1);
            Check.due("no less in slot " + slot, x.station(2, WAIT), 1);
        }
        Check.dueAll("slots, still, sent", new int[] {x.count(3), x.station(2, 4), x.count(5)}, 11, 10, 1);
        x.slot(1);
        Check.dueAll("less in slot 12", new int[] {x.station(2, WAIT), x.station(2, 9)}, 0, 3);
    }

    /** 0 sends its part in slot 1; 1, which waits 13, owes a told in slot 2. */
    private static void waitIsNotLessWhileItAnswers() {
        HeardSlots x = Check.laid("n2;h0,1;l0,1,1;l1,0,1;w16,16;z10;");
        Check.dueAll("waits", Check.stations(x, WAIT), 0, 13);
        x.slot(1);
        Check.dueAll("less in slot 1", new int[] {x.station(1, WAIT), x.station(1, 9)}, 12, 4);
        x.slot(1);
        Check.dueAll("no less while it answers", new int[] {x.station(1, WAIT), x.station(1, 9)}, 12, 0);
        x.slot(1);
        Check.due("less again", x.station(1, WAIT), 11);
    }

    /** What is heard in one slot hinders in the next one alone: a told makes nobody still beyond its own slot. */
    private static void freeBehindASilentSlot() {
        HeardSlots x = Check.laid("n3;h0,1;h1,2;l0,1,1;w1,1;");
        x.slot(2);
        x.letter(2, 1, 1);
        Check.dueAll("told in slot 2", new int[] {x.station(2, 4), x.station(2, 9)}, 2, 0);
        x.slot(1);
        Check.due("slot 3 was silent", x.station(2, 9), 3);
        HeardSlots hidden = Check.laid("n3;h0,1;h1,2;l0,1,9;l2,1,1;w1,1;t10,1;");
        hidden.slot(2);
        hidden.letter(2, 1, 1);
        Check.due("one that is not heard does not hinder", hidden.station(2, 9), 3);
    }

    /** Asks of 0 and 3 clash at 1 and are dropped in slot 2; 2 has overheard that of 0 and is still up to l + 3. */
    private static HeardSlots stillUpTo(int l) {
        HeardSlots x = Check.laid("n4;h0,1;h0,2;h1,3;l0,1," + l + ";l3,1," + l + ";w1,1;t1,1;");
        x.slot(2);
        Check.dueAll("dropped", Check.stations(x, DROPPED), 1, 0, 0, 1);
        Check.dueAll("still", Check.stations(x, 4), 0, 0, l + 3, 0);
        return x;
    }

    private static void freeAboveStill() {
        for (int l = 1; l <= 9; l++) {
            HeardSlots x = stillUpTo(l);
            x.letter(2, 0, 1);
            for (int slot = 3; slot <= l + 3; slot++) {
                Check.due("what 2 sends in slot " + slot, x.station(2, 9), 0);
                x.slot(1);
            }
            Check.due("what 2 sends above STILL", x.station(2, 9), 1);
        }
    }

    /** An ask in slot STILL is not granted, one in the slot above it is. */
    private static void grantAboveStill() {
        for (int l = 1; l <= 9; l++) {
            HeardSlots at = stillUpTo(l);
            at.slot(l);
            at.letter(0, 2, 1);
            at.slot(1);
            Check.dueAll("asked in slot STILL", new int[] {at.count(3), at.station(2, 4), at.station(2, 9)},
                l + 3, l + 3, 0);
            Check.due("dropped for want of a grant", at.ahead(1, 1), 1);
            HeardSlots above = stillUpTo(l);
            above.slot(l + 1);
            above.letter(0, 2, 1);
            above.slot(1);
            Check.dueAll("asked above STILL", new int[] {above.count(3), above.station(2, 9)}, l + 4, 2);
            Check.due("dropped", above.ahead(1, 1), 0);
        }
    }

    /** Of the five that 0 hears none to all send a letter of one part. */
    private static void oneSendsOrMore() {
        for (int senders = 0; senders <= 5; senders++) {
            StringBuilder text = new StringBuilder("n6;h0,1;h0,2;h0,3;h0,4;h0,5;");
            for (int i = 1; i <= senders; i++) {
                text.append("l").append(i).append(",0,1;");
            }
            HeardSlots x = Check.laid(text + "w1,1;t10,1;");
            x.slot(1);
            Check.due("a clash of 0 with " + senders, x.station(0, 5), senders > 1 ? 1 : 0);
            Check.due("clashes of all with " + senders, x.count(7), senders > 1 ? 1 : 0);
            Check.due("what 0 owes with " + senders, x.station(0, 9), senders == 1 ? 4 : 0);
            Check.due("sent with " + senders, x.slot(1), senders == 1 ? 1 : 0);
            Check.due("dropped with " + senders, x.count(6), senders > 1 ? senders : 0);
        }
    }

    private static void oneThatSendsHearsNothing() {
        for (int others = 1; others <= 4; others++) {
            StringBuilder text = new StringBuilder("n6;h0,1;h0,2;h0,3;h0,4;h0,5;l0,5,1;");
            for (int i = 1; i <= others; i++) {
                text.append("l").append(i).append(",0,1;");
            }
            HeardSlots x = Check.laid(text + "w1,1;t10,1;");
            x.slot(1);
            Check.due("clashes with " + others, x.count(7), 0);
            Check.due("what 0 owes", x.station(0, 9), 0);
            Check.due("what 5 owes", x.station(5, 9), 4);
            Check.due("sent: that of 0", x.slot(1), 1);
            Check.due("dropped: the others", x.count(6), others);
        }
    }

    private static String trio(int l, int asked) {
        return "n3;h0,1;h1,2;h0,2;l0,1," + l + ";w1,1;t" + asked + ",5;";
    }

    private static String hiddenTrio(int l, int asked) {
        return "n3;h0,1;h1,2;l0,1," + l + ";w1,1;t" + asked + ",5;";
    }

    private static void stillByAsk() {
        for (int l = 1; l <= 9; l++) {
            HeardSlots x = Check.laid(trio(l, 1));
            x.slot(1);
            Check.dueAll("still by an ask of " + l, Check.stations(x, 4), 0, 0, 1 + l + 2);
            x.slot(l + 2);
            Check.dueAll("the told is in that slot", new int[] {x.count(5), x.station(2, 4)}, 1, l + 3);
        }
    }

    private static void stillByGrant() {
        for (int l = 1; l <= 9; l++) {
            HeardSlots x = Check.laid(hiddenTrio(l, 1));
            x.slot(1);
            Check.due("nothing is heard of the ask", x.station(2, 4), 0);
            x.slot(1);
            Check.dueAll("still by a grant of " + l, Check.stations(x, 4), 0, 0, 2 + l + 1);
        }
    }

    /** 2 comes to hear 0 ahead of part p, of whichever p. */
    private static void stillByEachPart() {
        for (int l = 1; l <= 9; l++) {
            for (int p = 0; p < l; p++) {
                HeardSlots x = Check.laid(hiddenTrio(l, 10));
                if (p > 0) {
                    x.slot(p);
                }
                Check.due("hear(0, 2, 1)", x.hear(0, 2, 1), 3);
                Check.due("still ahead of it", x.station(2, 4), 0);
                x.slot(1);
                Check.due("still by part " + p + " of " + l, x.station(2, 4), p + 1 + l - p - 1 + 1);
                Check.dueAll("overheard", new int[] {x.overheard(2, 0, 0), x.overheard(2, 1, 0)}, p + 1, NONE);
            }
        }
    }

    private static void stillByTold() {
        for (int l = 1; l <= 9; l++) {
            HeardSlots x = Check.laid(hiddenTrio(l, 10));
            x.slot(l);
            Check.due("still ahead of the told", x.station(2, 4), 0);
            x.slot(1);
            Check.dueAll("still by a told", Check.stations(x, 4), 0, 0, l + 1);
        }
    }

    private static void stillIsNeverLess() {
        HeardSlots x = Check.laid("n4;h0,1;h0,2;h1,3;l0,1,9;l3,1,9;w1,1;t3,1;");
        x.slot(2);
        Check.due("still by an ask of 9", x.station(2, 4), 12);
        x.letter(0, 1, 1);
        x.slot(1);
        Check.dueAll("a part of 1 in slot 3", new int[] {x.overheard(2, 1, 0), x.overheard(2, 1, 3)}, 3, 3);
        Check.due("still as before", x.station(2, 4), 12);
        x.slot(1);
        Check.due("sent", x.count(5), 1);
        x.letter(0, 1, 7);
        x.slot(2);
        Check.dueAll("an ask of 7 in slot 6", new int[] {x.overheard(2, 2, 0), x.overheard(2, 2, 3)}, 6, 1);
        Check.due("still for longer", x.station(2, 4), 15);
    }

    /** 2, hidden from 0, sends to 1 in the slot of part p (or, p being 4, in that of the told). */
    private static void partsWithoutAGap() {
        for (int p = 0; p <= 4; p++) {
            HeardSlots x = Check.laid("n3;h0,1;h1,2;l0,1,4;w1,1;t10,5;");
            if (p > 0) {
                x.slot(p);
            }
            x.letter(2, 1, 1);
            Check.due("2 sends with part " + p, x.station(2, 9), 3);
            x.slot(4 - p);
            Check.due("a told is owed", x.station(1, 9), p == 4 ? 4 : 0);
            int sent = x.slot(1);
            Check.due("sent, part " + p + " being lost", sent, p == 4 ? 1 : 0);
            Check.dueAll("tries and clashes", new int[] {x.station(0, TRIES), x.station(1, 5) > 0 ? 1 : 0},
                p == 4 ? 0 : 1, p == 4 ? 0 : 1);
        }
    }

    /**
     * 2 sends four parts to 3 in slots 3 to 6: of the first try of 0 (slots 1 to 3) part 2 is lost at 1, of the second
     * one (slots 5 to 7) parts 0 and 1 are. Parts 0 and 1 of the one and part 2 of the other are no letter.
     */
    private static void partsOfTwoTries() {
        HeardSlots x = Check.laid("n4;h0,1;h1,2;h2,3;l0,1,3;w1,1;t10,7;");
        x.slot(2);
        x.letter(2, 3, 4);
        x.slot(2);
        Check.dueAll("the first try has failed", new int[] {x.station(0, TRIES), x.station(1, 5)}, 1, 1);
        x.slot(3);
        Check.dueAll("clashes, and no told", new int[] {x.station(1, 5), x.station(1, 9)}, 3, 0);
        Check.due("slot 8: the second try fails", x.slot(1), 0);
        Check.due("tries", x.station(0, TRIES), 2);
        Check.due("the third one is whole", x.slot(4), 1);
        Check.due("took 3", x.took(3, 0), 1);
    }

    /** 2 answers 3 in the very slot in which 1 answers 0: what 1 says is lost at 0, and no later slot makes it up. */
    private static void waitingForOneSlotAlone() {
        for (int asked = 1; asked <= 10; asked += 9) {
            HeardSlots x = Check.laid("n4;h0,1;h2,3;l0,1,1;l3,2,1;w1,1;t" + asked + ",5;");
            x.slot(1);
            Check.dueAll("both wait", Check.stations(x, 11), 1, 0, 0, 1);
            HeardSlots both = Check.laid("n4;h0,1;h2,3;l0,1,1;l3,2,1;w1,1;t" + asked + ",5;");
            both.slot(2);
            Check.dueAll("tries where both answers come", Check.stations(both, TRIES), 0, 0, 0, 0);
            x.hear(0, 2, 1);
            Check.due("slot(1)", x.slot(1), asked == 1 ? 0 : 1);
            Check.dueAll("clashes", Check.stations(x, 5), 1, 0, 0, 0);
            Check.dueAll("tries", Check.stations(x, TRIES), 1, 0, 0, 0);
            Check.dueAll("nobody waits any more", Check.stations(x, 11), 0, 0, 0, 0);
        }
    }

    /** Two that hear one another and begin together fail in slots 2, 4, 6, .. */
    private static void triesAreRAtMost() {
        for (int most = 1; most <= 7; most++) {
            HeardSlots x = Check.laid("n2;h0,1;l0,1,1;l1,0,1;l0,1,1;w1,1;t10," + most + ";");
            for (int fails = 1; fails <= most; fails++) {
                x.slot(1);
                Check.dueAll("tries while waiting", Check.stations(x, TRIES), fails - 1, fails - 1);
                x.slot(1);
                int tries = fails == most ? 0 : fails;
                int dropped = fails == most ? 1 : 0;
                Check.dueAll("tries of " + most, Check.stations(x, TRIES), tries, tries);
                Check.dueAll("dropped of " + most, Check.stations(x, DROPPED), dropped, dropped);
                Check.dueAll("letters of " + most, Check.stations(x, LETTERS), 2 - dropped, 1 - dropped);
            }
            Check.due("drew, once for the second letter", x.station(0, DREW), most + 1);
            Check.due("drew, and no more for none", x.station(1, DREW), most);
            Check.due("the second one is sent", x.slot(2), 1);
            Check.due("took 1", x.took(1, 0), 1);
        }
    }

    private static void windowsDoubleAndAreSmallAgain() {
        int[][] windows = {{1, 1}, {1, 2}, {1, 3}, {1, 64}, {3, 64}, {5, 9}, {16, 16}, {16, 17}, {16, 32}, {16, 33},
            {16, 64}};
        int[] seen = new int[4];
        for (int[] w : windows) {
            for (int tries = 1; tries <= 7; tries += 2) {
                for (int z = 0; z < 4; z++) {
                    HeardSlots x = Check.laid("n4;h0,1;h1,2;h2,3;l0,1,5;l0,1,1;l2,1,9;l2,3,4;l3,2,9;l3,2,9;l1,0,2;w"
                        + w[0] + "," + w[1] + ";t7," + tries + ";z" + z + ";");
                    for (int slot = 1; slot <= 300; slot++) {
                        stepOfAll(x, seen);
                    }
                }
            }
        }
        String[] kinds = {"sent", "dropped", "failed below MOST", "failed at MOST"};
        for (int kind = 0; kind < 4; kind++) {
            Check.due("seen: " + kinds[kind], seen[kind] > 0 ? 1 : 0, 1);
        }
    }

    private static void stepOfAll(HeardSlots x, int[] seen) {
        int n = x.count(0);
        int[][] before = new int[n][];
        for (int i = 0; i < n; i++) {
            before[i] = all(x, i);
        }
        x.slot(1);
        for (int i = 0; i < n; i++) {
            stepOfOne(x, i, before[i], all(x, i), seen);
        }
    }

    private static int[] all(HeardSlots x, int i) {
        int[] answers = new int[12];
        for (int what = 0; what < 12; what++) {
            answers[what] = x.station(i, what);
        }
        return answers;
    }

    /** SENT, DROPPED, FAILS and what each makes of tries, window, wait and draws; or none of them. */
    private static void stepOfOne(HeardSlots x, int i, int[] old, int[] now, int[] seen) {
        boolean sent = now[SENT] > old[SENT];
        boolean dropped = now[DROPPED] > old[DROPPED];
        boolean failed = now[TRIES] > old[TRIES];
        int window = old[WINDOW];
        int tries = old[TRIES];
        if (sent || dropped) {
            seen[sent ? 0 : 1]++;
            Check.due("one letter less", now[LETTERS], old[LETTERS] - 1);
            Check.due("R tries if dropped", sent || old[TRIES] + 1 == x.count(12) ? 1 : 0, 1);
            window = x.count(9);
            tries = 0;
        } else if (failed) {
            seen[2 * window < x.count(10) ? 2 : 3]++;
            window = Math.min(2 * window, x.count(10));
            tries++;
            Check.due("tries below R", tries < x.count(12) ? 1 : 0, 1);
        }
        Check.due("window", now[WINDOW], window);
        Check.due("tries", now[TRIES], tries);
        boolean drawn = (sent || dropped || failed) && now[LETTERS] > 0;
        Check.due("drew", now[DREW], old[DREW] + (drawn ? 1 : 0));
        if (drawn) {
            Check.due("wait by the window as it is then", now[WAIT], x.draw(i, old[DREW]) % window);
        } else if (now[LETTERS] > 0) {
            Check.due("wait as it was or 1 less", now[WAIT] == old[WAIT] || now[WAIT] == old[WAIT] - 1 ? 1 : 0, 1);
        }
    }

    /** Both answers come in one slot; a call of many slots answers for all of them. */
    private static void sentInThem() {
        String text = "n4;h0,1;h2,3;l0,1,1;l3,2,1;l0,1,1;w1,1;";
        HeardSlots x = Check.laid(text);
        Check.dueAll("by one slot", new int[] {x.slot(1), x.slot(1), x.slot(1), x.slot(1), x.slot(1)}, 0, 2, 0, 0, 1);
        Check.due("by five", Check.laid(text).slot(5), 3);
        Check.due("by four", Check.laid(text).slot(4), 2);
        Check.due("by 99", Check.laid(text).slot(99), 3);
        Check.due("slot(0)", x.slot(0), HeardSlots.BAD);
        Check.due("undo() of a call is of all its slots", x.undo(), 3);
        Check.due("undo() four at most", x.undo() + x.undo() + x.undo(), 3);
        Check.dueAll("slots and sent", new int[] {x.count(3), x.count(5), x.undo()}, 1, 0, NO);
    }
}
