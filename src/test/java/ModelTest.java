import java.util.Random;

/** Long drawn runs of calls, each answered by the class and by Model, and everything that can be asked in between. */
public final class ModelTest {
    private static final int RUNS = 400;
    private static final int CALLS = 120;

    private final Random dice;
    private final String run;
    private final HeardSlots x = new HeardSlots();
    private final Model m = new Model();
    private final StringBuilder story = new StringBuilder();

    private ModelTest(int seed) {
        dice = new Random(seed);
        run = "run " + seed;
    }

    public static void main(String[] args) {
        for (int seed = 0; seed < RUNS && !Check.anyWrong(); seed++) {
            new ModelTest(seed).play();
        }
        Check.finish("ModelTest");
    }

    private void play() {
        if (dice.nextInt(8) > 0) {
            layText(goodText());
        }
        for (int k = 0; k < CALLS && !Check.anyWrong(); k++) {
            oneCall();
            if (dice.nextInt(4) == 0) {
                lookAtAll();
            } else {
                lookAtSome();
            }
        }
        if (Check.anyWrong()) {
            System.out.println(story);
        }
    }

    private void same(String call, int got, int want) {
        Check.due(run + ": " + call, got, want);
    }

    private void done(String call, int got, int want) {
        story.append(call).append(" = ").append(want).append('\n');
        same(call, got, want);
    }

    private int upTo(int most) {
        return dice.nextInt(most + 1);
    }

    /** Mostly one that there is; now and then one that there is not. */
    private int someStation() {
        return dice.nextInt(15) == 0 ? dice.nextInt(9) - 2 : dice.nextInt(m.count(0));
    }

    private void oneCall() {
        int kind = dice.nextInt(100);
        int i = someStation();
        int j = someStation();
        if (kind < 35) {
            int n = dice.nextInt(20) == 0 ? dice.nextInt(140) - 20 : dice.nextInt(3) == 0 ? upTo(40) : 1 + upTo(4);
            done("slot(" + n + ")", x.slot(n), m.slot(n));
        } else if (kind < 65) {
            int l = dice.nextInt(20) == 0 ? dice.nextInt(14) - 2 : 1 + upTo(8);
            done("letter(" + i + ", " + j + ", " + l + ")", x.letter(i, j, l), m.letter(i, j, l));
        } else if (kind < 78) {
            int is = dice.nextInt(20) == 0 ? dice.nextInt(5) - 2 : upTo(1);
            done("hear(" + i + ", " + j + ", " + is + ")", x.hear(i, j, is), m.hear(i, j, is));
        } else if (kind < 84) {
            int z = dice.nextInt(5) == 0 ? dice.nextInt(10200) - 100 : upTo(3);
            done("draws(" + z + ")", x.draws(z), m.draws(z));
        } else if (kind < 95) {
            done("undo()", x.undo(), m.undo());
        } else if (kind < 98) {
            layText(brokenText());
        } else {
            layText(goodText());
        }
    }

    private void layText(String text) {
        done("wipe()", x.wipe(), m.wipe());
        for (int k = 0; k < text.length(); k++) {
            char letter = text.charAt(k);
            same("write of " + text + " at " + k, x.write(letter), m.write(letter));
        }
        story.append("THE TEXT is now ").append(text).append('\n');
        done("fault()", x.fault(), m.fault());
        done("lay()", x.lay(), m.lay());
    }

    private String goodText() {
        int n = 2 + upTo(4);
        StringBuilder text = new StringBuilder("n" + n + ";");
        boolean[][] hears = new boolean[n][n];
        int density = 1 + upTo(3);
        for (int i = 0; i < n; i++) {
            for (int j = 0; j < i; j++) {
                if (dice.nextInt(4) < density) {
                    hears[i][j] = true;
                    hears[j][i] = true;
                    text.append("h").append(i).append(",").append(j).append(";");
                }
            }
        }
        int[] letters = new int[n];
        for (int k = upTo(14); k > 0; k--) {
            int i = dice.nextInt(n);
            int j = dice.nextInt(n);
            if (hears[i][j] && letters[i] < 6) {
                letters[i]++;
                text.append("l").append(i).append(",").append(j).append(",").append(1 + upTo(8)).append(";");
            }
        }
        if (dice.nextBoolean()) {
            int least = 1 + upTo(dice.nextBoolean() ? 15 : 2);
            text.append("w").append(least).append(",").append(least + upTo(64 - least)).append(";");
        }
        if (dice.nextBoolean()) {
            text.append("t").append(1 + upTo(9)).append(",").append(1 + upTo(6)).append(";");
        }
        if (dice.nextBoolean()) {
            text.append("z").append(upTo(9999)).append(";");
        }
        return text.toString();
    }

    private String brokenText() {
        String signs = "nhlwtz,;0123456789 x-/:";
        StringBuilder text = new StringBuilder(goodText());
        for (int k = upTo(2); k >= 0; k--) {
            int place = dice.nextInt(text.length());
            char sign = signs.charAt(dice.nextInt(signs.length()));
            int how = upTo(2);
            if (how == 0) {
                text.setCharAt(place, sign);
            } else if (how == 1) {
                text.insert(place, sign);
            } else if (text.length() > 1) {
                text.deleteCharAt(place);
            }
        }
        return text.toString();
    }

    private void lookAtSome() {
        int i = someStation();
        int j = someStation();
        int k = dice.nextInt(9) - 1;
        int what = dice.nextInt(8) - 1;
        int n = dice.nextInt(8) == 0 ? dice.nextInt(110) - 5 : upTo(30);
        same("ahead(" + n + ", " + what + ")", x.ahead(n, what), m.ahead(n, what));
        same("soon()", x.soon(), m.soon());
        same("draw(" + i + ", " + k + ")", x.draw(i, k), m.draw(i, k));
        same("pair(" + i + ", " + j + ")", x.pair(i, j), m.pair(i, j));
        same("took(" + k + ", " + what + ")", x.took(k, what), m.took(k, what));
        same("letterOf(" + i + ", " + k + ", " + what + ")", x.letterOf(i, k, what), m.letterOf(i, k, what));
        same("overheard(" + i + ", " + k + ", " + what + ")", x.overheard(i, k, what), m.overheard(i, k, what));
        same("station(" + i + ", " + (what + k) + ")", x.station(i, what + k), m.station(i, what + k));
    }

    private void lookAtAll() {
        for (int what = -1; what <= 15; what++) {
            same("count(" + what + ")", x.count(what), m.count(what));
        }
        for (int t = 0; t <= 10; t++) {
            for (int what = -1; what <= 3; what++) {
                same("took(" + t + ", " + what + ")", x.took(t, what), m.took(t, what));
            }
        }
        for (int i = -1; i <= 6; i++) {
            for (int what = -1; what <= 12; what++) {
                same("station(" + i + ", " + what + ")", x.station(i, what), m.station(i, what));
            }
            for (int j = -1; j <= 6; j++) {
                same("pair(" + i + ", " + j + ")", x.pair(i, j), m.pair(i, j));
            }
            for (int k = -1; k <= 7; k++) {
                lookAtRows(i, k);
            }
        }
        for (int what = 0; what <= 5; what++) {
            same("ahead(99, " + what + ")", x.ahead(99, what), m.ahead(99, what));
        }
        same("fault()", x.fault(), m.fault());
    }

    private void lookAtRows(int i, int k) {
        for (int what = -1; what <= 4; what++) {
            same("letterOf(" + i + ", " + k + ", " + what + ")", x.letterOf(i, k, what), m.letterOf(i, k, what));
            same("overheard(" + i + ", " + k + ", " + what + ")", x.overheard(i, k, what), m.overheard(i, k, what));
        }
    }
}
