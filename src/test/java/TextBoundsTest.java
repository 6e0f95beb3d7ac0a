/** Promises 1 to 5: each bound that the document sets to THE TEXT, its ITEMS and what is LAID. */
public final class TextBoundsTest {
    private static final int BAD = HeardSlots.BAD, NO = HeardSlots.NO, FULL = HeardSlots.FULL, NONE = HeardSlots.NONE;

    private TextBoundsTest() {
    }

    public static void main(String[] args) {
        newObjectHasNoText();
        lettersAre32To126();
        textHas200Letters();
        badIsAheadOfFull();
        wipeOfNoneAndOfAll();
        wipeIsNoChange();
        emptyTextHasNoFault();
        stationsAre2To6();
        stationsAreToldOnceAndFirst();
        heardOnesAreStationsAndUnlike();
        heardToldAgainIsAsItIs();
        lettersGoBetweenStationsThatHear();
        lettersAre1To9Long();
        lettersAre6InARow();
        windowsHaveTheirBounds();
        triesHaveTheirBounds();
        drawsAre0To9999();
        numbersHaveOneToFourFigures();
        figuresAre0To9();
        itemsEndInTheirSign();
        faultIsTheFirstOne();
        faultAtTheLastPlace();
        layAnswers2To6();
        layIsRefused();
        layOfWhatCountsLast();
        layWithoutWordsOnWindowsTriesDraws();
        layLeavesNothingBehind();
        textStaysWhenLaid();
        Check.finish("TextBoundsTest");
    }

    private static HeardSlots told(String text) {
        HeardSlots x = new HeardSlots();
        Check.rewrite(x, text);
        return x;
    }

    private static void taken(String text) {
        HeardSlots x = told(text);
        Check.due("fault() of " + text, x.fault(), NONE);
        int n = Integer.parseInt(text.substring(1, text.indexOf(';')));
        Check.due("lay() of " + text, x.lay(), n);
        Check.due("stations of " + text, x.count(0), n);
    }

    private static void faulty(String text, int place) {
        Check.due("fault() of " + text, told(text).fault(), place);
        Twins.refused("lay() of " + text, x -> {
            x.draws(7);
            x.slot(3);
            Check.rewrite(x, text);
        }, HeardSlots::lay, NO);
    }

    /** The number stands between ahead and behind, in the last item: taken from least to most, none beside these. */
    private static void range(String ahead, String behind, int least, int most) {
        taken(ahead + least + behind);
        taken(ahead + most + behind);
        int place = ahead.lastIndexOf(';') + 1;
        faulty(ahead + (most + 1) + behind, place);
        faulty(ahead + 9999 + behind, place);
        faulty(ahead + -1 + behind, place);
        if (least > 0) {
            faulty(ahead + (least - 1) + behind, place);
        }
    }

    private static void newObjectHasNoText() {
        HeardSlots x = new HeardSlots();
        Check.due("letters of THE TEXT", x.count(14), 0);
        Check.due("fault()", x.fault(), NONE);
        Check.due("lay()", x.lay(), NO);
        Check.due("undo()", x.undo(), NO);
        Check.due("wipe()", x.wipe(), 0);
        Check.due("write(110)", x.write('n'), 1);
    }

    private static void lettersAre32To126() {
        int[] none = {31, 127, 0, -1, 10, 128, 255, 256 + 'n', 65536 + 'n', -65536 + 'n', Integer.MIN_VALUE,
            Integer.MAX_VALUE};
        for (int letter : none) {
            Twins.refused("write(" + letter + ")", x -> Check.rewrite(x, "n2"), x -> x.write(letter), BAD);
        }
        HeardSlots x = new HeardSlots();
        for (int letter = 32; letter <= 126; letter++) {
            Check.due("write(" + letter + ")", x.write(letter), letter - 31);
        }
    }

    /** A text of 200 letters without a fault; its last item begins at place 196. */
    private static String longest() {
        return "n2;" + "z1;".repeat(63) + "z10;z11;";
    }

    private static void textHas200Letters() {
        HeardSlots x = new HeardSlots();
        String text = longest();
        Check.due("letters", text.length(), 200);
        for (int k = 0; k < 199; k++) {
            x.write(text.charAt(k));
        }
        Check.due("fault() of 199", x.fault(), 196);
        Check.due("write of the last one", x.write(';'), 200);
        Check.due("fault() of 200", x.fault(), NONE);
        Check.due("write behind it", x.write(';'), FULL);
        Check.due("write behind it again", x.write('n'), FULL);
        Check.due("letters", x.count(14), 200);
        Check.due("fault() as it was", x.fault(), NONE);
        Check.due("lay()", x.lay(), 2);
        Check.due("Z by the last item", x.count(8), 11);
        Twins.refused("write(59) when full", y -> Check.rewrite(y, text), y -> y.write(59), FULL);
    }

    private static void badIsAheadOfFull() {
        Twins.refused("write(127) when full", x -> Check.rewrite(x, longest()), x -> x.write(127), BAD);
        Twins.refused("write(31) when full", x -> Check.rewrite(x, longest()), x -> x.write(31), BAD);
    }

    private static void wipeOfNoneAndOfAll() {
        HeardSlots x = told(longest());
        Check.due("wipe() of 200", x.wipe(), 200);
        Check.due("letters", x.count(14), 0);
        Check.due("fault()", x.fault(), NONE);
        Check.due("wipe() of none", x.wipe(), 0);
        Check.due("write(122) behind it", x.write('z'), 1);
        Check.due("wipe() of one", x.wipe(), 1);
    }

    private static void wipeIsNoChange() {
        HeardSlots x = told("n2;");
        x.draws(3);
        Check.due("wipe()", x.wipe(), 3);
        Check.dueAll("stations and Z stay", new int[] {x.count(0), x.count(8), x.count(13)}, 4, 3, 1);
        Check.due("undo() is of Z", x.undo(), 0);
        Check.dueAll("Z and THE TEXT", new int[] {x.count(8), x.count(14)}, 0, 0);
    }

    private static void emptyTextHasNoFault() {
        Check.due("fault() of an empty text", told("").fault(), NONE);
        Twins.refused("lay() of an empty text", x -> x.slot(3), HeardSlots::lay, NO);
    }

    private static void stationsAre2To6() {
        range("n", ";", 2, 6);
        faulty("n0;", 0);
        faulty("n10;", 0);
    }

    private static void stationsAreToldOnceAndFirst() {
        faulty("n2;n2;", 3);
        faulty("n2;z1;n2;", 6);
        for (String item : new String[] {"h0,1;", "l0,1,1;", "w4,32;", "t3,5;", "z0;"}) {
            faulty(item, 0);
            faulty(item + "n2;", 0);
        }
    }

    private static void heardOnesAreStationsAndUnlike() {
        range("n6;h", ",0;", 1, 5);
        range("n6;h", ",5;", 0, 4);
        range("n6;h0,", ";", 1, 5);
        range("n6;h5,", ";", 0, 4);
        range("n2;h", ",1;", 0, 0);
        range("n2;h0,", ";", 1, 1);
        for (int i = 0; i < 6; i++) {
            faulty("n6;h" + i + "," + i + ";", 3);
        }
    }

    private static void heardToldAgainIsAsItIs() {
        taken("n2;h0,1;h0,1;h1,0;");
        HeardSlots x = Check.laid("n3;h0,1;h1,0;h0,1;");
        Check.due("pairs", x.count(1), 1);
        Check.dueAll("hears", Check.stations(x, 10), 2, 1, 0);
    }

    private static void lettersGoBetweenStationsThatHear() {
        String all = "n3;h0,1;h0,2;h1,2;";
        range(all + "l", ",0,1;", 1, 2);
        range(all + "l", ",2,1;", 0, 1);
        range(all + "l0,", ",1;", 1, 2);
        range(all + "l2,", ",1;", 0, 1);
        faulty(all + "l1,1,1;", all.length());
        faulty("n3;h0,1;h1,2;l0,2,1;", 13);
        faulty("n3;h0,1;l0,2,1;h0,2;", 8);
        taken("n3;h0,1;h0,2;l0,2,1;");
        taken("n3;h2,0;l0,2,1;l2,0,1;");
    }

    private static void lettersAre1To9Long() {
        range("n2;h0,1;l0,1,", ";", 1, 9);
        faulty("n2;h0,1;l0,1,10;", 8);
    }

    private static void lettersAre6InARow() {
        String ahead = "n3;h0,1;h1,2;";
        for (String letter : new String[] {"l0,1,1;", "l1,2,9;", "l2,1,3;"}) {
            taken(ahead + letter.repeat(6));
            faulty(ahead + letter.repeat(7), ahead.length() + 42);
            faulty(ahead + letter.repeat(6) + "z1;" + letter + "q", ahead.length() + 45);
        }
        taken(ahead + "l0,1,1;".repeat(6) + "l1,0,1;".repeat(6) + "l2,1,1;".repeat(6));
        faulty(ahead + "l1,0,1;".repeat(3) + "l1,2,1;".repeat(4), ahead.length() + 42);
    }

    private static void windowsHaveTheirBounds() {
        range("n2;w", ",64;", 1, 16);
        for (int least : new int[] {1, 2, 15, 16}) {
            range("n2;w" + least + ",", ";", least, 64);
        }
        faulty("n2;w0,0;", 3);
    }

    private static void triesHaveTheirBounds() {
        range("n2;t", ",5;", 1, 10);
        range("n2;t3,", ";", 1, 7);
    }

    private static void drawsAre0To9999() {
        taken("n2;z0;");
        taken("n2;z9999;");
        faulty("n2;z10000;", 3);
        faulty("n2;z-1;", 3);
    }

    private static void numbersHaveOneToFourFigures() {
        String[] items =
            {"h#,1;", "h0,#;", "l#,1,1;", "l0,#,1;", "l0,1,#;", "w#,32;", "w4,#;", "t#,5;", "t3,#;", "z#;"};
        String[] numbers = {"0", "1", "0", "1", "1", "4", "32", "3", "5", "7"};
        for (int k = 0; k < items.length; k++) {
            figuresOf("n2;h0,1;" + items[k], numbers[k], 8);
        }
        figuresOf("n#;", "2", 0);
    }

    private static void figuresOf(String text, String number, int place) {
        String zeros = "0000";
        for (int figures = number.length(); figures <= 4; figures++) {
            HeardSlots x = told(text.replace("#", zeros.substring(0, figures - number.length()) + number));
            Check.due(text + " with " + figures + " figures", x.fault(), NONE);
            Check.due(text + " laid with " + figures + " figures", x.lay(), 2);
        }
        faulty(text.replace("#", zeros.substring(0, 5 - number.length()) + number), place);
        faulty(text.replace("#", ""), place);
    }

    /** The signs just below 0 and just above 9, and such as stand ahead of numbers elsewhere. */
    private static void figuresAre0To9() {
        for (String sign : new String[] {"/", ":", "-1", "+1", " 1", "1 ", "a", "1.", "0x1"}) {
            faulty("n2;h0,1;z" + sign + ";", 8);
            faulty("n2;h0,1;l0,1," + sign + ";", 8);
            faulty("n2;h0," + sign + ";", 3);
        }
    }

    private static void itemsEndInTheirSign() {
        for (String item : new String[] {"h0,1", "l0,1,1", "w4,32", "t3,5", "z0"}) {
            String ahead = "n2;h0,1;";
            taken(ahead + item + ";");
            for (int kept = 1; kept <= item.length(); kept++) {
                faulty(ahead + item.substring(0, kept), 8);
            }
            for (String end : new String[] {",", ",1;", ":", " ;", ".", "; "}) {
                faulty(ahead + item + end, end.equals("; ") ? 9 + item.length() : 8);
            }
            faulty(ahead + item.toUpperCase() + ";", 8);
            faulty(ahead + item.replaceFirst("[0-9]", ";"), 8);
        }
        faulty("n", 0);
        faulty("n2", 0);
        faulty("n2,", 0);
        faulty("N2;", 0);
        faulty(";", 0);
        faulty("n2;;", 3);
        faulty(" n2;", 0);
    }

    private static void faultIsTheFirstOne() {
        faulty("n2;h0,0;h0,2;", 3);
        faulty("n2;h0,1;h0,2;h0,0;", 8);
        faulty("n2;w0,1;l0,1,1;", 3);
        faulty("q", 0);
        faulty("n7;h0,0;", 0);
    }

    private static void faultAtTheLastPlace() {
        String text = "n2;" + "z1;".repeat(64) + "z22;";
        faulty(text + "z", 199);
        faulty(text + ";", 199);
    }

    private static void layAnswers2To6() {
        HeardSlots x = new HeardSlots();
        for (int n = 2; n <= 6; n++) {
            Check.rewrite(x, "n" + n + ";");
            Check.due("lay()", x.lay(), n);
            Check.due("station of the last one", x.station(n - 1, 0), 0);
            Check.due("station behind the last one", x.station(n, 0), BAD);
            Check.due("pairs", x.count(1), 0);
        }
    }

    private static void layIsRefused() {
        Twins.refused("lay() with a fault in the midst of slots", x -> {
            x.letter(0, 1, 9);
            x.slot(5);
            x.hear(0, 3, 1);
            x.slot(4);
            Check.rewrite(x, "n6;h0,1;l0,1,1;w1,1;t1,1;z5;x");
        }, HeardSlots::lay, NO);
    }

    private static void layOfWhatCountsLast() {
        HeardSlots x = Check.laid("n2;w1,1;w16,64;t1,1;t10,7;z5;z9999;");
        Check.dueAll("the last ones", new int[] {x.count(8), x.count(9), x.count(10), x.count(11), x.count(12)},
            9999, 16, 64, 10, 7);
        HeardSlots y = Check.laid("n2;w16,64;w1,1;t10,7;t1,1;z9999;z0;");
        Check.dueAll("the last ones", new int[] {y.count(8), y.count(9), y.count(10), y.count(11), y.count(12)},
            0, 1, 1, 1, 1);
    }

    private static void layWithoutWordsOnWindowsTriesDraws() {
        HeardSlots x = Check.laid("n2;w16,64;t10,7;z9999;");
        Check.rewrite(x, "n3;");
        Check.due("lay()", x.lay(), 3);
        Check.dueAll("as without", new int[] {x.count(8), x.count(9), x.count(10), x.count(11), x.count(12)},
            0, 4, 32, 3, 5);
    }

    /** Laid again behind any number of slots, some gone by and some looked at, everything is as on a new object. */
    private static void layLeavesNothingBehind() {
        String text = "n4;h0,1;h1,2;h2,3;h0,2;l0,1,5;l2,1,5;l3,2,1;l1,0,2;l0,2,9;w1,4;t4,2;z3;";
        for (int slots = 1; slots <= 60; slots++) {
            int n = slots;
            Twins.alikeFromThenOn("laid behind " + n, () -> {
                HeardSlots x = Check.laid(text);
                x.slot(n);
                x.ahead(1, 0);
                Check.due("lay() behind " + n, x.lay(), 4);
                Check.due("undo() behind lay()", x.undo(), NO);
                return x;
            }, () -> Check.laid(text));
        }
    }

    private static void textStaysWhenLaid() {
        HeardSlots x = Check.laid("n3;z4;");
        Check.due("letters", x.count(14), 6);
        Check.due("lay() again", x.lay(), 3);
        x.write('z');
        x.write('5');
        x.write(';');
        Check.due("lay() with more", x.lay(), 3);
        Check.due("Z", x.count(8), 5);
        Check.due("wipe()", x.wipe(), 9);
    }
}
