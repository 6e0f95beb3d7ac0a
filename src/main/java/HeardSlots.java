/** Stations that listen before they send; ../shared/DOC.md says what each call answers. */
public final class HeardSlots {
    public static final int BAD = -1, NO = -2, FULL = -3, NONE = -4;

    private static final String FIRST_TEXT =
        "n4;h0,1;h1,2;h2,3;l0,1,5;l2,1,5;l3,2,1;l1,0,2;";

    private static final int TEXT_LIMIT = 200;
    private static final int STATION_LIMIT = 6;
    private static final int LETTER_LIMIT = 6;
    private static final int LONGEST = 9;
    private static final int MEMORY_LIMIT = 6;
    private static final int UNDO_LIMIT = 4;
    private static final int SLOT_LIMIT = 9999;
    private static final int SEED_LIMIT = 9999;
    private static final int STEP_LIMIT = 99;
    private static final int DRAW_LIMIT = 999;
    private static final int TRIES_LIMIT = 9;

    private static final int NOTHING = 0, ASK = 1, GRANT = 2, PART = 3, TOLD = 4;
    private static final int LETTERS = 0, SENT = 1, DROPPED = 2, CLASHES = 3;

    private final char[] text;
    private int textLength;
    private final Net net;
    /** Room for what is tried out: a text that is read, slots that are looked at ahead. */
    private final Net trial;
    private final Reader reader;
    /** The nets as they stood ahead of the latest changes, used as a ring. */
    private final Net[] past;
    private int pastHeld;
    private int pastNext;

    public HeardSlots() {
        text = new char[TEXT_LIMIT];
        net = new Net();
        trial = new Net();
        reader = new Reader(text, trial);
        past = new Net[UNDO_LIMIT];
        for (int k = 0; k < UNDO_LIMIT; k++) {
            past[k] = new Net();
        }
        for (int k = 0; k < FIRST_TEXT.length() && k < TEXT_LIMIT; k++) {
            text[k] = FIRST_TEXT.charAt(k);
            textLength = k + 1;
        }
        takeText();
        textLength = 0;
    }

    // ---- told

    public int write(int letter) {
        if (letter < 32 || letter > 126) {
            return BAD;
        }
        if (textLength >= TEXT_LIMIT) {
            return FULL;
        }
        text[textLength] = (char) letter;
        textLength++;
        return textLength;
    }

    public int wipe() {
        int was = textLength;
        textLength = 0;
        return was;
    }

    public int fault() {
        return reader.firstFault(textLength);
    }

    public int lay() {
        return takeText() ? net.stations : NO;
    }

    // ---- what is done

    public int letter(int i, int j, int l) {
        if (!isPair(i, j) || l < 1 || l > LONGEST) {
            return BAD;
        }
        if (!net.hears(i, j)) {
            return NO;
        }
        Station sender = net.all[i];
        if (sender.row.size >= LETTER_LIMIT) {
            return FULL;
        }
        remember();
        sender.row.add(j, l);
        if (sender.row.size == 1) {
            net.drawWait(i);
        }
        return sender.row.size;
    }

    public int hear(int i, int j, int is) {
        if (!isPair(i, j) || is < 0 || is > 1) {
            return BAD;
        }
        boolean wanted = is == 1;
        if (net.hears(i, j) == wanted) {
            return NO;
        }
        if (!wanted && (net.all[i].row.hasOneTo(j) || net.all[j].row.hasOneTo(i))) {
            return NO;
        }
        remember();
        net.join(i, j, wanted);
        return net.pairsOf(0);
    }

    public int draws(int z) {
        if (z < 0 || z > SEED_LIMIT) {
            return BAD;
        }
        if (z == net.seed) {
            return NO;
        }
        remember();
        int was = net.seed;
        net.seed = z;
        return was;
    }

    public int slot(int n) {
        if (n < 1 || n > STEP_LIMIT) {
            return BAD;
        }
        if (net.slots + n > SLOT_LIMIT) {
            return NO;
        }
        remember();
        int before = net.totalOf(SENT);
        net.passSlots(n);
        return net.totalOf(SENT) - before;
    }

    public int undo() {
        if (pastHeld < 1) {
            return NO;
        }
        pastNext = pastNext == 0 ? UNDO_LIMIT - 1 : pastNext - 1;
        pastHeld--;
        net.copyFrom(past[pastNext]);
        return pastHeld;
    }

    // ---- stations

    public int station(int i, int what) {
        if (!isStation(i)) {
            return BAD;
        }
        Station s = net.all[i];
        switch (what) {
            case 0: return s.row.size;
            case 1: return s.window;
            case 2: return s.tries;
            case 3: return s.row.size == 0 ? NONE : s.wait;
            case 4: return s.still;
            case 5: return s.clashes;
            case 6: return s.sent;
            case 7: return s.dropped;
            case 8: return s.drew;
            case 9: return net.kindToSend(s);
            case 10: return s.hears;
            case 11: return s.awaits == NOTHING ? 0 : 1;
            default: return BAD;
        }
    }

    public int letterOf(int i, int k, int what) {
        if (!isStation(i) || k < 0 || what < 0 || what > 3) {
            return BAD;
        }
        Station s = net.all[i];
        if (k >= s.row.size) {
            return NONE;
        }
        switch (what) {
            case 0: return s.row.to[k];
            case 1: return s.row.length[k];
            case 2: return net.isAsked(s.row.length[k]) ? 1 : 0;
            default: return k == 0 ? s.partsSent : 0;
        }
    }

    public int overheard(int i, int k, int what) {
        if (!isStation(i) || k < 0 || what < 0 || what > 3) {
            return BAD;
        }
        return net.all[i].memory.read(k, what);
    }

    public int pair(int i, int j) {
        return isPair(i, j) ? net.nearness(i, j) : BAD;
    }

    public int draw(int i, int k) {
        if (!isStation(i) || k < 0 || k > DRAW_LIMIT) {
            return BAD;
        }
        return drawnNumber(net.seed, i, k);
    }

    // ---- tries

    public int took(int t, int what) {
        if (t < 1 || t > TRIES_LIMIT || what < 0 || what > 2) {
            return BAD;
        }
        if (what == 0) {
            return net.sentBy[t];
        }
        int step = what == 1 ? 1 : -1;
        for (int k = t; k >= 1 && k <= TRIES_LIMIT; k += step) {
            if (net.sentBy[k] > 0) {
                return k;
            }
        }
        return NONE;
    }

    // ---- ahead

    public int ahead(int n, int what) {
        if (n < 1 || n > STEP_LIMIT || what < 0 || what > 5) {
            return BAD;
        }
        trial.copyFrom(net);
        trial.passSlots(n);
        switch (what) {
            case 0: return trial.totalOf(SENT) - net.totalOf(SENT);
            case 1: return trial.totalOf(DROPPED) - net.totalOf(DROPPED);
            case 2: return trial.totalOf(CLASHES) - net.totalOf(CLASHES);
            case 3: return mostSentInTrial();
            case 4: return leastSentInTrial();
            default: return trial.totalOf(LETTERS);
        }
    }

    public int soon() {
        int before = net.totalOf(SENT);
        trial.copyFrom(net);
        for (int n = 1; n <= STEP_LIMIT; n++) {
            trial.passSlots(1);
            if (trial.totalOf(SENT) > before) {
                return n;
            }
        }
        return NONE;
    }

    public int count(int what) {
        switch (what) {
            case 0: return net.stations;
            case 1: return net.pairsOf(0);
            case 2: return net.pairsOf(1);
            case 3: return net.slots;
            case 4: return net.totalOf(LETTERS);
            case 5: return net.totalOf(SENT);
            case 6: return net.totalOf(DROPPED);
            case 7: return net.totalOf(CLASHES);
            case 8: return net.seed;
            case 9: return net.least;
            case 10: return net.most;
            case 11: return net.askedFrom;
            case 12: return net.mostTries;
            case 13: return pastHeld;
            case 14: return textLength;
            default: return BAD;
        }
    }

    // ---- what the calls share

    private boolean isStation(int i) {
        return i >= 0 && i < net.stations;
    }

    private boolean isPair(int i, int j) {
        return isStation(i) && isStation(j) && i != j;
    }

    private boolean takeText() {
        if (reader.firstFault(textLength) != NONE || trial.stations == 0) {
            return false;
        }
        trial.drawFirstWaits();
        net.copyFrom(trial);
        pastHeld = 0;
        pastNext = 0;
        return true;
    }

    private void remember() {
        past[pastNext].copyFrom(net);
        pastNext = pastNext == UNDO_LIMIT - 1 ? 0 : pastNext + 1;
        pastHeld = Math.min(pastHeld + 1, UNDO_LIMIT);
    }

    private int sentInTrial(int i) {
        return trial.all[i].sent - net.all[i].sent;
    }

    private int mostSentInTrial() {
        int most = sentInTrial(0);
        for (int i = 1; i < net.stations; i++) {
            most = Math.max(most, sentInTrial(i));
        }
        return most;
    }

    private int leastSentInTrial() {
        int least = sentInTrial(0);
        for (int i = 1; i < net.stations; i++) {
            least = Math.min(least, sentInTrial(i));
        }
        return least;
    }

    private static int drawnNumber(int seed, int i, int k) {
        long x = 7919L * seed + 6151L * i + 3571L * k + 1L;
        return (int) (x * x % 65521L);
    }

    /** What one station sends in one slot, or owes for the next one. */
    private static final class Signal {
        int kind;
        int to;
        int length;
        int part;

        void put(int newKind, int newTo, int newLength, int newPart) {
            kind = newKind;
            to = newTo;
            length = newLength;
            part = newPart;
        }

        void clear() {
            put(NOTHING, 0, 0, 0);
        }

        void copyFrom(Signal other) {
            put(other.kind, other.to, other.length, other.part);
        }
    }

    /** The letters of one station, the first one to be sent first. */
    private static final class LetterRow {
        int size;
        final int[] to = new int[LETTER_LIMIT];
        final int[] length = new int[LETTER_LIMIT];

        void add(int newTo, int newLength) {
            if (size < LETTER_LIMIT) {
                to[size] = newTo;
                length[size] = newLength;
                size++;
            }
        }

        void removeFirst() {
            if (size > 0) {
                size--;
                System.arraycopy(to, 1, to, 0, size);
                System.arraycopy(length, 1, length, 0, size);
            }
        }

        boolean hasOneTo(int j) {
            for (int k = 0; k < size; k++) {
                if (to[k] == j) {
                    return true;
                }
            }
            return false;
        }

        void copyFrom(LetterRow other) {
            size = other.size;
            System.arraycopy(other.to, 0, to, 0, LETTER_LIMIT);
            System.arraycopy(other.length, 0, length, 0, LETTER_LIMIT);
        }
    }

    /** The latest that one station overheard, the oldest one first. */
    private static final class Memory {
        private static final int FACTS = 4;

        int held;
        final int[] facts = new int[MEMORY_LIMIT * FACTS];

        void add(int slot, int from, int to, int kind) {
            if (held == MEMORY_LIMIT) {
                held--;
                System.arraycopy(facts, FACTS, facts, 0, held * FACTS);
            }
            int place = held * FACTS;
            facts[place] = slot;
            facts[place + 1] = from;
            facts[place + 2] = to;
            facts[place + 3] = kind;
            held++;
        }

        int read(int k, int what) {
            if (k < 0 || k >= held || what < 0 || what >= FACTS) {
                return NONE;
            }
            return facts[k * FACTS + what];
        }

        void copyFrom(Memory other) {
            held = other.held;
            System.arraycopy(other.facts, 0, facts, 0, MEMORY_LIMIT * FACTS);
        }
    }

    /** One station as it stands between two slots; out alone counts only while a slot goes by. */
    private static final class Station {
        int hears;
        int window;
        int tries;
        int wait;
        int still;
        int clashes;
        int sent;
        int dropped;
        int drew;
        /** What the coming slot must bring it (GRANT or TOLD), or NOTHING. */
        int awaits;
        boolean atLetter;
        int partsSent;
        /** Parts got without a gap: from whom, how many, the slot of the last one. */
        int partsFrom;
        int partsHeld;
        int partsSlot;
        final LetterRow row = new LetterRow();
        final Memory memory = new Memory();
        final Signal owed = new Signal();
        final Signal out = new Signal();

        void clear() {
            hears = 0;
            window = 0;
            tries = 0;
            wait = 0;
            still = 0;
            clashes = 0;
            sent = 0;
            dropped = 0;
            drew = 0;
            awaits = NOTHING;
            atLetter = false;
            partsSent = 0;
            partsFrom = 0;
            partsHeld = 0;
            partsSlot = 0;
            row.size = 0;
            memory.held = 0;
            owed.clear();
            out.clear();
        }

        void copyFrom(Station other) {
            hears = other.hears;
            window = other.window;
            tries = other.tries;
            wait = other.wait;
            still = other.still;
            clashes = other.clashes;
            sent = other.sent;
            dropped = other.dropped;
            drew = other.drew;
            awaits = other.awaits;
            atLetter = other.atLetter;
            partsSent = other.partsSent;
            partsFrom = other.partsFrom;
            partsHeld = other.partsHeld;
            partsSlot = other.partsSlot;
            row.copyFrom(other.row);
            memory.copyFrom(other.memory);
            owed.copyFrom(other.owed);
        }

        int tallyOf(int tally) {
            switch (tally) {
                case LETTERS: return row.size;
                case SENT: return sent;
                case DROPPED: return dropped;
                default: return clashes;
            }
        }

        /** Puts into out what is sent; owed and parts move on by it. */
        void send(int kind) {
            if (kind == NOTHING) {
                out.clear();
            } else if (kind == GRANT || kind == TOLD) {
                out.copyFrom(owed);
            } else {
                out.put(kind, row.to[0], row.length[0], partsSent);
            }
            owed.clear();
            if (kind == PART) {
                partsSent++;
                atLetter = partsSent < row.length[0];
            }
        }

        /** Behind an ask or a last part, the next slot must bring the answer. */
        void awaitAnswer() {
            if (out.kind == ASK) {
                awaits = GRANT;
            } else if (out.kind == PART && !atLetter) {
                awaits = TOLD;
            }
        }

        void overhear(int slot, int from, Signal got) {
            memory.add(slot, from, got.to, got.kind);
            int more = 0;
            if (got.kind == ASK) {
                more = got.length + 2;
            } else if (got.kind == GRANT) {
                more = got.length + 1;
            } else if (got.kind == PART) {
                more = got.length - got.part;
            }
            still = Math.max(still, slot + more);
        }

        /** Takes what is to itself; answers whether its first letter is sent by it. */
        boolean take(int slot, int from, Signal got) {
            if (got.kind == ASK && slot > still) {
                owed.put(GRANT, from, got.length, 0);
            } else if (got.kind == PART) {
                takePart(slot, from, got);
            } else if (got.kind == GRANT && awaits == GRANT) {
                awaits = NOTHING;
                atLetter = true;
            } else if (got.kind == TOLD && awaits == TOLD) {
                awaits = NOTHING;
                return true;
            }
            return false;
        }

        void takePart(int slot, int from, Signal got) {
            boolean goesOn = partsFrom == from && partsHeld == got.part && partsSlot == slot - 1;
            if (got.part != 0 && !goesOn) {
                return;
            }
            partsFrom = from;
            partsHeld = got.part + 1;
            partsSlot = slot;
            if (partsHeld == got.length) {
                owed.put(TOLD, from, got.length, 0);
            }
        }

        /** The first letter goes from the row, be it sent or dropped. */
        void closeLetter(int least) {
            row.removeFirst();
            partsSent = 0;
            tries = 0;
            window = least;
        }

        void failLetter(int least, int most, int mostTries) {
            awaits = NOTHING;
            tries++;
            if (tries >= mostTries) {
                dropped++;
                closeLetter(least);
            } else {
                partsSent = 0;
                window = Math.min(2 * window, most);
            }
        }
    }

    /** All that a change changes and that undoing brings back. */
    private static final class Net {
        int stations;
        int least;
        int most;
        int askedFrom;
        int mostTries;
        int seed;
        int slots;
        /** Who sent in the latest slot, as bits. */
        int senders;
        final int[] sentBy = new int[TRIES_LIMIT + 1];
        final Station[] all = new Station[STATION_LIMIT];

        Net() {
            for (int i = 0; i < STATION_LIMIT; i++) {
                all[i] = new Station();
            }
        }

        void clear() {
            stations = 0;
            least = 4;
            most = 32;
            askedFrom = 3;
            mostTries = 5;
            seed = 0;
            slots = 0;
            senders = 0;
            for (int t = 0; t <= TRIES_LIMIT; t++) {
                sentBy[t] = 0;
            }
            for (int i = 0; i < STATION_LIMIT; i++) {
                all[i].clear();
            }
        }

        void copyFrom(Net other) {
            stations = other.stations;
            least = other.least;
            most = other.most;
            askedFrom = other.askedFrom;
            mostTries = other.mostTries;
            seed = other.seed;
            slots = other.slots;
            senders = other.senders;
            System.arraycopy(other.sentBy, 0, sentBy, 0, TRIES_LIMIT + 1);
            for (int i = 0; i < STATION_LIMIT; i++) {
                all[i].copyFrom(other.all[i]);
            }
        }

        boolean hears(int i, int j) {
            return (all[i].hears >> j & 1) == 1;
        }

        void join(int i, int j, boolean wanted) {
            if (wanted) {
                all[i].hears |= 1 << j;
                all[j].hears |= 1 << i;
            } else {
                all[i].hears &= ~(1 << j);
                all[j].hears &= ~(1 << i);
            }
        }

        /** 0 heard, 1 hidden, 2 apart. */
        int nearness(int i, int j) {
            if (hears(i, j)) {
                return 0;
            }
            return (all[i].hears & all[j].hears) != 0 ? 1 : 2;
        }

        int pairsOf(int wanted) {
            int pairs = 0;
            for (int i = 0; i < stations; i++) {
                for (int j = i + 1; j < stations; j++) {
                    if (nearness(i, j) == wanted) {
                        pairs++;
                    }
                }
            }
            return pairs;
        }

        boolean isAsked(int length) {
            return length >= askedFrom;
        }

        int totalOf(int tally) {
            int total = 0;
            for (int i = 0; i < stations; i++) {
                total += all[i].tallyOf(tally);
            }
            return total;
        }

        /** Only now, as the text may tell windows and draws behind letters. */
        void drawFirstWaits() {
            for (int i = 0; i < stations; i++) {
                all[i].window = least;
                drawWait(i);
            }
        }

        void drawWait(int i) {
            Station s = all[i];
            if (s.row.size == 0 || s.window < 1) {
                s.wait = 0;
                return;
            }
            s.wait = drawnNumber(seed, i, s.drew) % s.window;
            s.drew++;
        }

        boolean mayBegin(Station s) {
            boolean isFree = slots + 1 > s.still && (senders & s.hears) == 0;
            return isFree && s.awaits == NOTHING && s.row.size > 0;
        }

        /** What a station sends in the slot behind those gone by. */
        int kindToSend(Station s) {
            if (s.owed.kind != NOTHING) {
                return s.owed.kind;
            }
            if (s.atLetter) {
                return PART;
            }
            if (s.wait > 0 || !mayBegin(s)) {
                return NOTHING;
            }
            return isAsked(s.row.length[0]) ? ASK : PART;
        }

        void passSlots(int n) {
            for (int k = 0; k < n; k++) {
                int sending = sendAll();
                slots++;
                senders = sending;
                for (int i = 0; i < stations; i++) {
                    listen(i);
                }
            }
        }

        /** Answers who sends, as bits; senders stays as it was, for all to look at alike. */
        int sendAll() {
            int sending = 0;
            for (int i = 0; i < stations; i++) {
                Station s = all[i];
                int kind = kindToSend(s);
                boolean countsDown = kind == NOTHING && s.wait > 0 && mayBegin(s);
                s.send(kind);
                if (countsDown) {
                    s.wait--;
                }
                if (kind != NOTHING) {
                    sending |= 1 << i;
                }
            }
            return sending;
        }

        /** Hearing and taking of one station; it changes nothing that another one looks at. */
        void listen(int i) {
            Station s = all[i];
            if (s.out.kind != NOTHING) {
                s.awaitAnswer();
                return;
            }
            int heard = senders & s.hears;
            boolean isSent = false;
            if (Integer.bitCount(heard) > 1) {
                s.clashes++;
            } else if (heard != 0) {
                isSent = getFrom(i, lowestOf(heard));
            }
            if (isSent) {
                tallySent(s);
                s.closeLetter(least);
                drawWait(i);
            } else if (s.awaits != NOTHING) {
                s.failLetter(least, most, mostTries);
                drawWait(i);
            }
        }

        int lowestOf(int bits) {
            int i = 0;
            while (i < STATION_LIMIT - 1 && (bits >> i & 1) == 0) {
                i++;
            }
            return i;
        }

        boolean getFrom(int i, int from) {
            Signal got = all[from].out;
            if (got.to == i) {
                return all[i].take(slots, from, got);
            }
            all[i].overhear(slots, from, got);
            return false;
        }

        void tallySent(Station s) {
            int took = s.tries + 1;
            if (took <= TRIES_LIMIT) {
                sentBy[took]++;
            }
            s.sent++;
        }
    }

    /** Reads the text into a net, item by item, up to the first fault. */
    private static final class Reader {
        private static final int FIGURES = 4;
        private static final int MOST_NUMBERS = 3;

        private final char[] text;
        private final Net into;
        private final int[] numbers = new int[MOST_NUMBERS];
        private int end;
        private int place;

        Reader(char[] text, Net into) {
            this.text = text;
            this.into = into;
        }

        /** The place of the first item that is not so, or NONE. */
        int firstFault(int length) {
            into.clear();
            end = Math.min(length, TEXT_LIMIT);
            place = 0;
            for (int items = 0; items < TEXT_LIMIT && place < end; items++) {
                int start = place;
                if (!readItem()) {
                    return start;
                }
            }
            return NONE;
        }

        boolean readItem() {
            char kind = text[place];
            place++;
            int needed = numbersBehind(kind);
            if (needed == 0 || !readNumbers(needed)) {
                return false;
            }
            if (kind == 'n') {
                return setStations(numbers[0]);
            }
            return into.stations > 0 && applyItem(kind, numbers[0], numbers[1], numbers[2]);
        }

        int numbersBehind(char kind) {
            switch (kind) {
                case 'n':
                case 'z':
                    return 1;
                case 'h':
                case 'w':
                case 't':
                    return 2;
                case 'l':
                    return 3;
                default:
                    return 0;
            }
        }

        boolean readNumbers(int needed) {
            for (int k = 0; k < needed && k < MOST_NUMBERS; k++) {
                char behind = k == needed - 1 ? ';' : ',';
                if (!readNumber(k) || !readSign(behind)) {
                    return false;
                }
            }
            return true;
        }

        boolean readNumber(int k) {
            int value = 0;
            int figures = 0;
            while (figures < FIGURES && place < end && text[place] >= '0' && text[place] <= '9') {
                value = 10 * value + (text[place] - '0');
                figures++;
                place++;
            }
            numbers[k] = value;
            return figures > 0;
        }

        boolean readSign(char sign) {
            if (place >= end || text[place] != sign) {
                return false;
            }
            place++;
            return true;
        }

        boolean setStations(int n) {
            if (into.stations != 0 || n < 2 || n > STATION_LIMIT) {
                return false;
            }
            into.stations = n;
            return true;
        }

        boolean applyItem(char kind, int a, int b, int c) {
            switch (kind) {
                case 'h': return applyHear(a, b);
                case 'l': return applyLetter(a, b, c);
                case 'w': return applyWindows(a, b);
                case 't': return applyTries(a, b);
                default: return applySeed(a);
            }
        }

        boolean arePair(int i, int j) {
            return i >= 0 && i < into.stations && j >= 0 && j < into.stations && i != j;
        }

        boolean applyHear(int i, int j) {
            if (!arePair(i, j)) {
                return false;
            }
            into.join(i, j, true);
            return true;
        }

        boolean applyLetter(int i, int j, int length) {
            if (!arePair(i, j) || length < 1 || length > LONGEST || !into.hears(i, j)) {
                return false;
            }
            LetterRow row = into.all[i].row;
            if (row.size >= LETTER_LIMIT) {
                return false;
            }
            row.add(j, length);
            return true;
        }

        boolean applyWindows(int least, int most) {
            if (least < 1 || least > 16 || most < least || most > 64) {
                return false;
            }
            into.least = least;
            into.most = most;
            return true;
        }

        boolean applyTries(int askedFrom, int mostTries) {
            if (askedFrom < 1 || askedFrom > 10 || mostTries < 1 || mostTries > 7) {
                return false;
            }
            into.askedFrom = askedFrom;
            into.mostTries = mostTries;
            return true;
        }

        boolean applySeed(int seed) {
            if (seed < 0 || seed > SEED_LIMIT) {
                return false;
            }
            into.seed = seed;
            return true;
        }
    }
}
