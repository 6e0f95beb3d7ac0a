import java.util.ArrayList;
import java.util.List;
import java.util.regex.Matcher;
import java.util.regex.Pattern;

/**
 * The document told over again, as a second opinion for ModelTest. Nothing is held that can be looked up in the
 * logs of what was sent and got; undoing and looking ahead go through all changes anew.
 */
final class Model {
    private static final String NUMBER = "(\\d{1,4})";
    private static final Pattern ITEM = Pattern.compile(
        "(?:([nz])" + NUMBER + ";)|(?:([hwt])" + NUMBER + "," + NUMBER + ";)|(?:(l)" + NUMBER + "," + NUMBER + ","
            + NUMBER + ";)");

    private String text = "";
    private String laid = "n4;h0,1;h1,2;h2,3;l0,1,5;l2,1,5;l3,2,1;l1,0,2;";
    private final List<int[]> changes = new ArrayList<>();
    private int undoable = 0;
    private World now = replay();

    /** One thing on the air. */
    private static final class Sig {
        int kind;
        int from;
        int to;
        int length;
        int part;

        Sig(int kind, int from, int to, int length, int part) {
            this.kind = kind;
            this.from = from;
            this.to = to;
            this.length = length;
            this.part = part;
        }

        boolean isLastPart() {
            return kind == 3 && part == length - 1;
        }
    }

    /** One laid text with all changes behind it. */
    private static final class World {
        int n;
        int least = 4;
        int most = 32;
        int asked = 3;
        int rounds = 5;
        int z;
        final boolean[][] hears = new boolean[6][6];
        final List<List<int[]>> letters = new ArrayList<>();
        final int[] window = new int[6];
        final int[] tries = new int[6];
        final int[] wait = new int[6];
        final int[] drew = new int[6];
        final int[] clashes = new int[6];
        final List<int[]> sentLetters = new ArrayList<>();
        final List<Integer> droppedBy = new ArrayList<>();
        final List<Sig[]> sent = new ArrayList<>();
        final List<Sig[]> got = new ArrayList<>();

        World() {
            for (int i = 0; i < 6; i++) {
                letters.add(new ArrayList<>());
            }
            sent.add(new Sig[6]);
            got.add(new Sig[6]);
        }

        int slots() {
            return sent.size() - 1;
        }

        Sig at(List<Sig[]> log, int slot, int i) {
            return slot < 1 || slot >= log.size() ? null : log.get(slot)[i];
        }

        int still(int i) {
            int still = 0;
            for (int s = 1; s < got.size(); s++) {
                Sig g = got.get(s)[i];
                if (g != null && g.to != i) {
                    int more = g.kind == 1 ? g.length + 2 : g.kind == 2 ? g.length + 1
                        : g.kind == 3 ? (g.length - 1 - g.part) + 1 : 0;
                    still = Math.max(still, s + more);
                }
            }
            return still;
        }

        int awaited(int i, int slot) {
            Sig s = at(sent, slot - 1, i);
            return s == null ? 0 : s.kind == 1 ? 2 : s.isLastPart() ? 4 : 0;
        }

        /** Whether the last part got in a slot has all its forerunners, one a slot. */
        boolean whole(int i, int slot) {
            Sig last = at(got, slot, i);
            if (last == null || last.to != i || !last.isLastPart()) {
                return false;
            }
            for (int k = 0; k < last.length; k++) {
                Sig g = at(got, slot - (last.length - 1 - k), i);
                if (g == null || g.kind != 3 || g.to != i || g.from != last.from || g.part != k) {
                    return false;
                }
            }
            return true;
        }

        boolean free(int i) {
            int slot = slots() + 1;
            for (int j = 0; j < n; j++) {
                if (hears[i][j] && at(sent, slot - 1, j) != null) {
                    return false;
                }
            }
            return slot > still(i);
        }

        boolean ready(int i) {
            return awaited(i, slots() + 1) == 0 && !letters.get(i).isEmpty() && free(i);
        }

        Sig next(int i) {
            int slot = slots() + 1;
            Sig g = at(got, slot - 1, i);
            Sig s = at(sent, slot - 1, i);
            // an ask that was got in a slot in which nothing else was: STILL is as it was ahead of it
            if (g != null && g.to == i && g.kind == 1 && slot - 1 > still(i)) {
                return new Sig(2, i, g.from, g.length, 0);
            }
            if (whole(i, slot - 1)) {
                return new Sig(4, i, g.from, g.length, 0);
            }
            boolean granted = g != null && g.to == i && g.kind == 2 && awaited(i, slot - 1) == 2;
            if (granted || s != null && s.kind == 3 && !s.isLastPart()) {
                int[] l = letters.get(i).get(0);
                return new Sig(3, i, l[0], l[1], granted ? 0 : s.part + 1);
            }
            if (ready(i) && wait[i] == 0) {
                int[] l = letters.get(i).get(0);
                return new Sig(l[1] >= asked ? 1 : 3, i, l[0], l[1], 0);
            }
            return null;
        }

        void slot() {
            int slot = slots() + 1;
            Sig[] out = new Sig[6];
            boolean[] less = new boolean[6];
            for (int i = 0; i < n; i++) {
                out[i] = next(i);
                less[i] = out[i] == null && ready(i) && wait[i] > 0;
            }
            for (int i = 0; i < n; i++) {
                wait[i] -= less[i] ? 1 : 0;
            }
            Sig[] in = new Sig[6];
            for (int i = 0; i < n; i++) {
                List<Sig> heard = new ArrayList<>();
                for (int j = 0; j < n; j++) {
                    if (hears[i][j] && out[j] != null) {
                        heard.add(out[j]);
                    }
                }
                if (out[i] == null && heard.size() == 1) {
                    in[i] = heard.get(0);
                } else if (out[i] == null && heard.size() > 1) {
                    clashes[i]++;
                }
            }
            sent.add(out);
            got.add(in);
            for (int i = 0; i < n; i++) {
                int awaited = awaited(i, slot);
                boolean comes = in[i] != null && in[i].to == i && in[i].kind == awaited;
                if (awaited == 4 && comes) {
                    sentLetters.add(new int[] {i, tries[i] + 1});
                    close(i);
                } else if (awaited != 0 && !comes) {
                    fail(i);
                }
            }
        }

        void close(int i) {
            letters.get(i).remove(0);
            tries[i] = 0;
            window[i] = least;
            drawNext(i);
        }

        void fail(int i) {
            tries[i]++;
            if (tries[i] == rounds) {
                droppedBy.add(i);
                close(i);
            } else {
                window[i] = Math.min(most, 2 * window[i]);
                drawNext(i);
            }
        }

        void drawNext(int i) {
            if (!letters.get(i).isEmpty()) {
                wait[i] = drawn(i, drew[i]) % window[i];
                drew[i]++;
            }
        }

        int drawn(int i, int k) {
            long x = (7919L * z + 6151L * i + 3571L * k + 1) % 65521;
            return (int) (x * x % 65521);
        }

        int pair(int i, int j) {
            boolean both = false;
            for (int k = 0; k < n; k++) {
                both |= hears[i][k] && hears[j][k];
            }
            return hears[i][j] ? 0 : both ? 1 : 2;
        }

        int pairs(int kind) {
            int pairs = 0;
            for (int i = 0; i < n; i++) {
                for (int j = 0; j < i; j++) {
                    pairs += pair(i, j) == kind ? 1 : 0;
                }
            }
            return pairs;
        }

        int standing() {
            return letters.stream().mapToInt(List::size).sum();
        }

        int sentBy(int i) {
            return (int) sentLetters.stream().filter(s -> s[0] == i).count();
        }

        int clashesOfAll() {
            int total = 0;
            for (int c : clashes) {
                total += c;
            }
            return total;
        }

        boolean item(Matcher m, boolean first) {
            String kind = m.group(1) != null ? m.group(1) : m.group(3) != null ? m.group(3) : m.group(6);
            int a = Integer.parseInt(m.group(2) != null ? m.group(2) : m.group(4) != null ? m.group(4) : m.group(7));
            int b = m.group(5) != null ? Integer.parseInt(m.group(5)) : m.group(8) != null
                ? Integer.parseInt(m.group(8)) : 0;
            int c = m.group(9) != null ? Integer.parseInt(m.group(9)) : 0;
            if (first != kind.equals("n")) {
                return false;
            }
            boolean two = a < n && b < n && a != b;
            switch (kind) {
                case "n":
                    n = a;
                    return a >= 2 && a <= 6;
                case "h":
                    if (two) {
                        hears[a][b] = true;
                        hears[b][a] = true;
                    }
                    return two;
                case "l":
                    if (!two || c < 1 || c > 9 || !hears[a][b] || letters.get(a).size() == 6) {
                        return false;
                    }
                    letters.get(a).add(new int[] {b, c});
                    return true;
                case "w":
                    least = a;
                    most = b;
                    return a >= 1 && a <= 16 && b >= a && b <= 64;
                case "t":
                    asked = a;
                    rounds = b;
                    return a >= 1 && a <= 10 && b >= 1 && b <= 7;
                default:
                    z = a;
                    return true;
            }
        }

        int read(String told) {
            Matcher m = ITEM.matcher(told);
            int place = 0;
            while (place < told.length()) {
                m.region(place, told.length());
                if (!m.lookingAt() || !item(m, place == 0)) {
                    return place;
                }
                place = m.end();
            }
            return -4;
        }

        void start() {
            for (int i = 0; i < n; i++) {
                window[i] = least;
                drawNext(i);
            }
        }

        void change(int[] c) {
            switch (c[0]) {
                case 0:
                    letters.get(c[1]).add(new int[] {c[2], c[3]});
                    if (letters.get(c[1]).size() == 1) {
                        drawNext(c[1]);
                    }
                    break;
                case 1:
                    hears[c[1]][c[2]] = c[3] == 1;
                    hears[c[2]][c[1]] = c[3] == 1;
                    break;
                case 2:
                    z = c[1];
                    break;
                default:
                    for (int k = 0; k < c[1]; k++) {
                        slot();
                    }
            }
        }
    }

    private World replay() {
        World w = new World();
        w.read(laid);
        w.start();
        for (int[] c : changes) {
            w.change(c);
        }
        return w;
    }

    private World later(int n) {
        World w = replay();
        for (int k = 0; k < n; k++) {
            w.slot();
        }
        return w;
    }

    private void change(int... c) {
        changes.add(c);
        now.change(c);
        undoable = Math.min(4, undoable + 1);
    }

    private boolean no(int i) {
        return i < 0 || i >= now.n;
    }

    int write(int letter) {
        if (letter < ' ' || letter > '~') {
            return -1;
        }
        if (text.length() == 200) {
            return -3;
        }
        text += (char) letter;
        return text.length();
    }

    int wipe() {
        int was = text.length();
        text = "";
        return was;
    }

    int fault() {
        return new World().read(text);
    }

    int lay() {
        if (text.isEmpty() || fault() != -4) {
            return -2;
        }
        laid = text;
        changes.clear();
        undoable = 0;
        now = replay();
        return now.n;
    }

    int letter(int i, int j, int l) {
        if (no(i) || no(j) || i == j || l < 1 || l > 9) {
            return -1;
        }
        if (!now.hears[i][j]) {
            return -2;
        }
        if (now.letters.get(i).size() == 6) {
            return -3;
        }
        change(0, i, j, l);
        return now.letters.get(i).size();
    }

    int hear(int i, int j, int is) {
        if (no(i) || no(j) || i == j || is != 0 && is != 1) {
            return -1;
        }
        boolean stands = now.letters.get(i).stream().anyMatch(l -> l[0] == j)
            || now.letters.get(j).stream().anyMatch(l -> l[0] == i);
        if (now.hears[i][j] == (is == 1) || is == 0 && stands) {
            return -2;
        }
        change(1, i, j, is);
        return now.pairs(0);
    }

    int draws(int z) {
        if (z < 0 || z > 9999) {
            return -1;
        }
        if (z == now.z) {
            return -2;
        }
        int was = now.z;
        change(2, z);
        return was;
    }

    int slot(int n) {
        if (n < 1 || n > 99) {
            return -1;
        }
        if (now.slots() + n > 9999) {
            return -2;
        }
        int before = now.sentLetters.size();
        change(3, n);
        return now.sentLetters.size() - before;
    }

    int undo() {
        if (undoable == 0) {
            return -2;
        }
        undoable--;
        changes.remove(changes.size() - 1);
        now = replay();
        return undoable;
    }

    int station(int i, int what) {
        if (no(i)) {
            return -1;
        }
        switch (what) {
            case 0: return now.letters.get(i).size();
            case 1: return now.window[i];
            case 2: return now.tries[i];
            case 3: return now.letters.get(i).isEmpty() ? -4 : now.wait[i];
            case 4: return now.still(i);
            case 5: return now.clashes[i];
            case 6: return now.sentBy(i);
            case 7: return (int) now.droppedBy.stream().filter(d -> d == i).count();
            case 8: return now.drew[i];
            case 9: return now.next(i) == null ? 0 : now.next(i).kind;
            case 10: return hearsAsBits(i);
            case 11: return now.awaited(i, now.slots() + 1) == 0 ? 0 : 1;
            default: return -1;
        }
    }

    private int hearsAsBits(int i) {
        int bits = 0;
        for (int j = 0; j < now.n; j++) {
            bits += now.hears[i][j] ? 1 << j : 0;
        }
        return bits;
    }

    int letterOf(int i, int k, int what) {
        if (no(i) || k < 0 || what < 0 || what > 3) {
            return -1;
        }
        if (k >= now.letters.get(i).size()) {
            return -4;
        }
        int[] l = now.letters.get(i).get(k);
        if (what == 3) {
            Sig s = now.at(now.sent, now.slots(), i);
            return k > 0 || s == null || s.kind != 3 ? 0 : s.part + 1;
        }
        return what == 2 ? l[1] >= now.asked ? 1 : 0 : l[what];
    }

    int overheard(int i, int k, int what) {
        if (no(i) || k < 0 || what < 0 || what > 3) {
            return -1;
        }
        List<int[]> all = new ArrayList<>();
        for (int s = 1; s <= now.slots(); s++) {
            Sig g = now.at(now.got, s, i);
            if (g != null && g.to != i) {
                all.add(new int[] {s, g.from, g.to, g.kind});
            }
        }
        List<int[]> last = all.subList(Math.max(0, all.size() - 6), all.size());
        return k >= last.size() ? -4 : last.get(k)[what];
    }

    int pair(int i, int j) {
        return no(i) || no(j) || i == j ? -1 : now.pair(i, j);
    }

    int draw(int i, int k) {
        return no(i) || k < 0 || k > 999 ? -1 : now.drawn(i, k);
    }

    int took(int t, int what) {
        if (t < 1 || t > 9 || what < 0 || what > 2) {
            return -1;
        }
        if (what == 0) {
            return (int) now.sentLetters.stream().filter(s -> s[1] == t).count();
        }
        return what == 1 ? now.sentLetters.stream().mapToInt(s -> s[1]).filter(s -> s >= t).min().orElse(-4)
            : now.sentLetters.stream().mapToInt(s -> s[1]).filter(s -> s <= t).max().orElse(-4);
    }

    int ahead(int n, int what) {
        if (n < 1 || n > 99 || what < 0 || what > 5) {
            return -1;
        }
        World w = later(n);
        int most = 0;
        int least = Integer.MAX_VALUE;
        for (int i = 0; i < w.n; i++) {
            most = Math.max(most, w.sentBy(i) - now.sentBy(i));
            least = Math.min(least, w.sentBy(i) - now.sentBy(i));
        }
        switch (what) {
            case 0: return w.sentLetters.size() - now.sentLetters.size();
            case 1: return w.droppedBy.size() - now.droppedBy.size();
            case 2: return w.clashesOfAll() - now.clashesOfAll();
            case 3: return most;
            case 4: return least;
            default: return w.standing();
        }
    }

    int soon() {
        World w = replay();
        for (int n = 1; n <= 99; n++) {
            w.slot();
            if (w.sentLetters.size() > now.sentLetters.size()) {
                return n;
            }
        }
        return -4;
    }

    int count(int what) {
        switch (what) {
            case 0: return now.n;
            case 1: return now.pairs(0);
            case 2: return now.pairs(1);
            case 3: return now.slots();
            case 4: return now.standing();
            case 5: return now.sentLetters.size();
            case 6: return now.droppedBy.size();
            case 7: return now.clashesOfAll();
            case 8: return now.z;
            case 9: return now.least;
            case 10: return now.most;
            case 11: return now.asked;
            case 12: return now.rounds;
            case 13: return undoable;
            case 14: return text.length();
            default: return -1;
        }
    }
}
