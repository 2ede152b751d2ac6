import java.util.Arrays;

/**
 * Clocks that strike, a bed with one ear out of it, and what time it may be by what was heard.
 * The words in capitals are those of the document's terms.
 */
public final class StrokesHeard {
    public static final int BAD = -1000000001;
    public static final int NO = -1000000002;
    public static final int FULL = -1000000003;
    public static final int NONE = -1000000005;
    public static final int NOTHING = -1000000011;
    public static final int KIND = -1000000012;
    public static final int INDEX = -1000000013;
    public static final int SIZE = -1000000014;

    private static final int CLOCK = 0;
    private static final int QUARTERS = 1;
    private static final int TWICE = 2;
    private static final int TUNE = 3;
    private static final int SIGN = 4;
    private static final int CUCKOO = 5;
    private static final int KINDS = 6;
    /** For each KIND the one above it; nothing stands above CLOCK. */
    private static final int[] ABOVE = {-1, CLOCK, CLOCK, QUARTERS, TWICE, CLOCK};

    private static final int AGAIN = 0;
    private static final int FEE = 1;
    private static final int FINE = 2;
    private static final int KEYS = 3;

    private static final int FIRST_AGAIN = 1;
    private static final int LAST_AGAIN = 14;
    private static final int PLAIN_AGAIN = 2;

    private static final int MOST_CLOCKS = 6;
    private static final int MOST_NOTES = 12;
    private static final int MOST_TEXTS = 14;
    private static final int MOST_BYTES = 96;
    private static final int MOST_PLACES = 24;
    private static final int MOST_WAITING = 60;
    private static final int SHEETS = 4;
    private static final int SLOTS = 5;

    private static final int HOUR = 60;
    private static final int HOURS = 12;
    private static final int TIMES = 720;
    private static final int OFFS = 60;
    private static final int TONES = 10;
    private static final int LAST_MINUTE = 9999;
    /** No TOTAL is above this: six CLOCKS, and no KIND strikes more than 12 and 4. */
    private static final int MOST_STROKES = MOST_CLOCKS * 16;

    private static final int HOLDS_NOTHING = 0;
    private static final int HOLDS_CLOCK = 1;
    private static final int HOLDS_SHEET = 2;
    private static final int HOLDS_NUMBER = 3;

    private static final int MISSING = -1;
    private static final int SHORTS = 0;
    private static final int FLOATS = 1;
    private static final int MOST_FLOAT = 99999;

    private final Night now = new Night();
    private final Night image = new Night();
    /** What is only thought is played here, so that nothing else changes. */
    private final Night thought = new Night();
    private boolean kept = false;
    private final Guess guess = new Guess();
    private final Windows windows = new Windows();
    private final TextReader reader = new TextReader();
    private final byte[] tape = new byte[MOST_BYTES];
    private int tapeCount = 0;
    private final int[] waiting = new int[MOST_WAITING];
    private int waitingCount = 0;
    private final Sheet[] sheets = new Sheet[SHEETS];
    private final Slot[] slots = new Slot[SLOTS];

    public StrokesHeard() {
        for (int i = 0; i < SHEETS; i++) {
            sheets[i] = new Sheet();
        }
        for (int i = 0; i < SLOTS; i++) {
            slots[i] = new Slot();
        }
    }

    // ---- clocks

    public int clock(int kind, int off, int tone) {
        if (!within(kind, KINDS) || !within(off, OFFS) || !within(tone, TONES)) {
            return BAD;
        }
        if (now.clockCount >= MOST_CLOCKS) {
            return FULL;
        }
        now.addClock(kind, off, tone);
        return now.clockCount - 1;
    }

    public int told(int clock, int what) {
        if (!now.hasClock(clock)) {
            return BAD;
        }
        Clock it = now.clocks[clock];
        switch (what) {
            case 0: return it.kind;
            case 1: return it.off;
            case 2: return it.tone;
            case 3: return now.strokesAt(it, now.timeNow());
            case 4: return now.strokesOfAllTimes(it);
            case 5: return it.worth();
            default: return BAD;
        }
    }

    public int as(int clock, int kind) {
        if (!now.hasClock(clock) || !within(kind, KINDS)) {
            return BAD;
        }
        Clock it = now.clocks[clock];
        return isUnder(it.kind, kind) ? it.tone : KIND;
    }

    public int turns(int clock, int kind) {
        if (!now.hasClock(clock) || !within(kind, KINDS)) {
            return BAD;
        }
        Clock it = now.clocks[clock];
        int before = it.kind;
        it.kind = kind;
        return before;
    }

    public int set(int clock, int what, int v) {
        if (!now.hasClock(clock)) {
            return BAD;
        }
        Clock it = now.clocks[clock];
        if (what == 1 && within(v, OFFS)) {
            int before = it.off;
            it.off = v;
            return before;
        }
        if (what == 2 && within(v, TONES)) {
            int before = it.tone;
            it.tone = v;
            return before;
        }
        return BAD;
    }

    public int strokes(int clock, int time) {
        if (!now.hasClock(clock) || !within(time, TIMES)) {
            return BAD;
        }
        return now.strokesAt(now.clocks[clock], time);
    }

    public int total(int time) {
        return within(time, TIMES) ? now.totalAt(time) : BAD;
    }

    public int ear(int what, int v) {
        if (!within(what, 2) || !within(v, 101)) {
            return BAD;
        }
        int before = what == 0 ? now.ear : now.noise;
        if (what == 0) {
            now.ear = v;
        } else {
            now.noise = v;
        }
        return before;
    }

    public int deal(int n) {
        if (n < 1 || n > MOST_CLOCKS) {
            return BAD;
        }
        int came = Math.min(n, MOST_CLOCKS - now.clockCount);
        for (int i = 0; i < came; i++) {
            int kind = now.draw() % KINDS;
            int off = now.draw() % 10;
            int tone = now.draw() % 10;
            now.addClock(kind, off, tone);
        }
        return came;
    }

    public int seed(int v) {
        int before = now.z;
        now.z = v;
        return before;
    }

    // ---- minutes

    public int minutes(int n) {
        if (n < 1 || n > 100) {
            return BAD;
        }
        int before = now.heard;
        now.passMinutes(Math.min(n, LAST_MINUTE - now.minute));
        return now.heard - before;
    }

    public int bed(int what) {
        return what == 3 ? now.noteCount : now.bedCount(what);
    }

    public int note(int k) {
        if (!within(k, MOST_NOTES)) {
            return BAD;
        }
        return k < now.noteCount ? now.notes[k] : NONE;
    }

    // ---- what time it may be

    public int fits(int time) {
        if (!within(time, TIMES)) {
            return BAD;
        }
        for (int k = 0; k < now.noteCount; k++) {
            if (!now.allows(now.notes[k], now.totalAt(Math.floorMod(time - k, TIMES)))) {
                return 0;
            }
        }
        return 1;
    }

    public int may(int what) {
        if (!within(what, 4)) {
            return BAD;
        }
        guess.useClocks(now);
        guess.useNotes(now);
        guess.findTimes();
        switch (what) {
            case 0: return guess.found;
            case 1: return guess.hours;
            case 2: return guess.first;
            default: return guess.isSure() ? 1 : 0;
        }
    }

    public int next() {
        for (int n = 1; n <= HOUR; n++) {
            if (now.totalAt((now.minute + n - 1) % TIMES) > 0) {
                return n;
            }
        }
        return NONE;
    }

    public int parts(int time, int n) {
        if (!within(time, TIMES) || n < 0) {
            return BAD;
        }
        int sets = 0;
        for (int set = 0; set < 1 << now.clockCount; set++) {
            int together = 0;
            for (int c = 0; c < now.clockCount; c++) {
                if ((set >> c & 1) == 1) {
                    together += now.strokesAt(now.clocks[c], time);
                }
            }
            if (together == n) {
                sets++;
            }
        }
        return sets;
    }

    public int astray(int what) {
        if (!within(what, 2)) {
            return BAD;
        }
        guess.useClocks(now);
        guess.useNotes(now);
        int wrong = NONE;
        int most = NONE;
        for (int c = 0; c < now.clockCount; c++) {
            Clock it = now.clocks[c];
            guess.addStrokes(now, it, it.off, -1);
            guess.findTimes();
            guess.addStrokes(now, it, it.off, 1);
            if (wrong == NONE || guess.found > most) {
                wrong = c;
                most = guess.found;
            }
        }
        return what == 0 ? wrong : most;
    }

    public int right(int clock, int what) {
        if (!now.hasClock(clock) || !within(what, 2)) {
            return BAD;
        }
        Clock it = now.clocks[clock];
        guess.useClocks(now);
        guess.useNotes(now);
        guess.addStrokes(now, it, it.off, -1);
        int best = NONE;
        int fewest = NONE;
        for (int off = 0; off < OFFS; off++) {
            guess.addStrokes(now, it, off, 1);
            guess.findTimes();
            guess.addStrokes(now, it, off, -1);
            if (guess.found > 0 && (best == NONE || guess.found < fewest)) {
                best = off;
                fewest = guess.found;
            }
        }
        return what == 0 ? best : fewest;
    }

    public int telling() {
        guess.useClocks(now);
        return windows.shortest(guess.totals);
    }

    public int like(int sheet, int what) {
        if (!within(sheet, SHEETS) || !within(what, 2)) {
            return BAD;
        }
        Sheet row = sheets[sheet];
        if (row.sort == MISSING) {
            return NOTHING;
        }
        guess.useClocks(now);
        int best = 0;
        int least = guess.difference(row, 0);
        for (int time = 1; time < TIMES; time++) {
            int difference = guess.difference(row, time);
            if (difference < least) {
                best = time;
                least = difference;
            }
        }
        return what == 0 ? best : least;
    }

    // ---- what will be

    public int behind(int n, int what) {
        if (n < 0 || n > 100 || !within(what, 4)) {
            return BAD;
        }
        thought.take(now);
        thought.passMinutes(n);
        if (what != 3) {
            return thought.bedCount(what);
        }
        guess.useClocks(thought);
        guess.useNotes(thought);
        guess.findTimes();
        return guess.found;
    }

    public int listen() {
        thought.take(now);
        guess.useClocks(thought);
        for (int n = 0; n <= HOUR; n++) {
            guess.useNotes(thought);
            guess.findTimes();
            if (guess.isSure()) {
                return n;
            }
            thought.passMinutes(1);
        }
        return NONE;
    }

    public int fee() {
        Text law = now.law(FEE);
        return law == null ? now.heard : law.value(now.heard, now.missed, 0);
    }

    public int fine(int clock) {
        if (!now.hasClock(clock)) {
            return BAD;
        }
        Clock it = now.clocks[clock];
        Text law = now.law(FINE);
        return law == null ? it.off : law.value(it.off, it.tone, 0);
    }

    // ---- texts

    public int feed(int a, int b, int c) {
        if (tapeCount + 12 > MOST_BYTES) {
            return FULL;
        }
        putBytes(a);
        putBytes(b);
        putBytes(c);
        return tapeCount;
    }

    public int trim(int n) {
        if (n < 0 || n > tapeCount) {
            return BAD;
        }
        tapeCount = n;
        return n;
    }

    public int text() {
        int many = tapeCount;
        tapeCount = 0;
        if (!reader.readText(tape, many)) {
            return -100 - reader.start;
        }
        if (now.textCount >= MOST_TEXTS) {
            return FULL;
        }
        now.addText(reader.newText());
        return now.textCount - 1;
    }

    public int textTold(int text, int what) {
        Text it = now.textAt(text);
        if (it == null || !within(what, 2)) {
            return BAD;
        }
        return what == 0 ? it.key : it.pieces;
    }

    public int why(int key) {
        return within(key, KEYS) ? now.lawNumbers[key] : BAD;
    }

    // ---- sheets, slots

    public int sheet(int sheet, int sort, int n) {
        if (!within(sheet, SHEETS) || sort < MISSING || sort > FLOATS) {
            return BAD;
        }
        if (sort == MISSING) {
            sheets[sheet].become(MISSING, 0);
            return 0;
        }
        if (n > MOST_PLACES) {
            return BAD;
        }
        if (n < 0) {
            return SIZE;
        }
        sheets[sheet].become(sort, n);
        return n;
    }

    public int mark(int sheet, int place, int v) {
        if (!within(sheet, SHEETS)) {
            return BAD;
        }
        Sheet row = sheets[sheet];
        if (row.sort == MISSING) {
            return NOTHING;
        }
        if (!within(place, row.size)) {
            return INDEX;
        }
        if (row.sort == SHORTS) {
            if (v == NONE) {
                return KIND;
            }
            row.places[place] = (short) v;
            return 1;
        }
        if (v != NONE && (v < -MOST_FLOAT || v > MOST_FLOAT)) {
            return BAD;
        }
        row.places[place] = v;
        return 1;
    }

    public int pour(int sheet) {
        if (!within(sheet, SHEETS)) {
            return BAD;
        }
        Sheet row = sheets[sheet];
        if (row.sort == MISSING) {
            return NOTHING;
        }
        int changed = 0;
        for (int i = 0; i < now.clockCount && i < row.size; i++) {
            int off = row.isNumber(i) ? held(row.places[i], 0, OFFS - 1) : now.clocks[i].off;
            if (off != now.clocks[i].off) {
                now.clocks[i].off = off;
                changed++;
            }
        }
        return changed;
    }

    public int reads(int sheet) {
        if (!within(sheet, SHEETS)) {
            return BAD;
        }
        Sheet row = sheets[sheet];
        if (row.sort == MISSING) {
            return NOTHING;
        }
        int time = now.timeNow();
        for (int i = 0; i < row.size; i++) {
            boolean same = now.hasClock(i) && row.places[i] == now.strokesAt(now.clocks[i], time);
            if (row.isNumber(i) && !same) {
                return i;
            }
        }
        return NONE;
    }

    public int copy(int from, int place, int to, int at, int many) {
        if (!within(from, SHEETS) || !within(to, SHEETS)) {
            return BAD;
        }
        Sheet source = sheets[from];
        Sheet target = sheets[to];
        if (source.sort == MISSING || target.sort == MISSING) {
            return NOTHING;
        }
        if (source.sort != target.sort) {
            return KIND;
        }
        if (!source.hasRun(place, many) || !target.hasRun(at, many)) {
            return INDEX;
        }
        System.arraycopy(source.places, place, target.places, at, many);
        return many;
    }

    public int lay(int slot, int thing, int k) {
        if (!within(slot, SLOTS) || !within(thing, 4)) {
            return BAD;
        }
        if (thing == HOLDS_CLOCK && !now.hasClock(k) || thing == HOLDS_SHEET && !within(k, SHEETS)) {
            return BAD;
        }
        if (thing == HOLDS_SHEET && sheets[k].sort == MISSING) {
            return NOTHING;
        }
        Slot it = slots[slot];
        int before = it.holds;
        it.holds = thing;
        if (thing == HOLDS_CLOCK) {
            it.clock.take(now.clocks[k]);
        } else if (thing == HOLDS_SHEET) {
            it.sheet.take(sheets[k]);
        } else {
            it.number = k;
        }
        return before;
    }

    public int ask(int slot, int kind) {
        if (!within(slot, SLOTS) || !within(kind, KINDS)) {
            return BAD;
        }
        Slot it = slots[slot];
        if (it.holds == HOLDS_NOTHING) {
            return NOTHING;
        }
        if (it.holds != HOLDS_CLOCK || !isUnder(it.clock.kind, kind)) {
            return KIND;
        }
        return it.clock.worth();
    }

    public int item(int slot, int place) {
        if (!within(slot, SLOTS)) {
            return BAD;
        }
        Slot it = slots[slot];
        if (it.holds == HOLDS_NOTHING) {
            return NOTHING;
        }
        if (it.holds != HOLDS_SHEET) {
            return KIND;
        }
        if (!within(place, it.sheet.size)) {
            return INDEX;
        }
        return it.sheet.isNumber(place) ? it.sheet.places[place] : KIND;
    }

    public int rest(int slot, int n) {
        if (!within(slot, SLOTS)) {
            return BAD;
        }
        Slot it = slots[slot];
        if (it.holds == HOLDS_NOTHING) {
            return NOTHING;
        }
        if (it.holds != HOLDS_NUMBER) {
            return KIND;
        }
        return n == 0 ? NO : it.number % n;
    }

    // ---- rows, images

    public int tell(int v) {
        if (waitingCount >= MOST_WAITING) {
            return FULL;
        }
        waiting[waitingCount] = v;
        waitingCount++;
        return waitingCount;
    }

    public int check(int n) {
        int many = waitingCount;
        waitingCount = 0;
        if (n < 1 || n > 30) {
            return BAD;
        }
        if (!kept) {
            return NO;
        }
        thought.take(image);
        int due = 2 * Math.min(n, LAST_MINUTE - thought.minute);
        for (int i = 0; i < due; i++) {
            boolean first = i % 2 == 0;
            if (first) {
                thought.passMinutes(1);
            }
            if (i >= many || waiting[i] != (first ? thought.heard : thought.notes[0])) {
                return 1 + i;
            }
        }
        return many > due ? 1 + due : 0;
    }

    public int keep() {
        image.take(now);
        kept = true;
        return now.clockCount;
    }

    public int back() {
        if (!kept) {
            return NO;
        }
        now.take(image);
        return now.clockCount;
    }

    public int count(int what) {
        switch (what) {
            case 0: return now.clockCount;
            case 1: return now.minute;
            case 2: return now.ear;
            case 3: return now.noise;
            case 4: return now.textCount;
            case 5: return waitingCount;
            case 6: return tapeCount;
            case 7: return now.z;
            default: return BAD;
        }
    }

    private void putBytes(int four) {
        for (int shift = 24; shift >= 0 && tapeCount < MOST_BYTES; shift -= 8) {
            tape[tapeCount] = (byte) (four >>> shift);
            tapeCount++;
        }
    }

    private static boolean within(int v, int bound) {
        return v >= 0 && v < bound;
    }

    private static int held(int v, int least, int most) {
        return Math.max(least, Math.min(most, v));
    }

    private static boolean isUnder(int kind, int wanted) {
        int at = kind;
        for (int steps = 0; steps < KINDS && within(at, KINDS); steps++) {
            if (at == wanted) {
                return true;
            }
            at = ABOVE[at];
        }
        return false;
    }

    /** What a CLOCK of a KIND strikes at minute 0 of its hour h. */
    private static int fullStrokes(int kind, int h) {
        switch (kind) {
            case TUNE: return h + 4;
            case SIGN: return h / 5 + h % 5;
            default: return h;
        }
    }

    /** What a CLOCK of a KIND strikes in its hour h, if it is one that strikes again at the minute again. */
    private static int strokesWithin(int kind, int h, int minute, int again) {
        if (minute == 0) {
            return fullStrokes(kind, h);
        }
        switch (kind) {
            case QUARTERS:
            case TUNE: return minute % 15 == 0 ? minute / 15 : 0;
            case TWICE:
            case SIGN: return minute == again ? fullStrokes(kind, h) : 0;
            case CUCKOO: return minute == 30 ? 1 : 0;
            default: return 0;
        }
    }

    private static final class Clock {
        int kind = CLOCK;
        int off = 0;
        int tone = 0;

        void take(Clock other) {
            kind = other.kind;
            off = other.off;
            tone = other.tone;
        }

        int worth() {
            switch (kind) {
                case QUARTERS: return off + 4;
                case TUNE: return 2 * (off + 4);
                case TWICE: return 60 - off;
                case SIGN: return 60 - off - 5;
                case CUCKOO: return 2;
                default: return off;
            }
        }
    }

    /** All that AN IMAGE keeps. */
    private static final class Night {
        final Clock[] clocks = new Clock[MOST_CLOCKS];
        int clockCount = 0;
        int ear = 100;
        int noise = 0;
        int heard = 0;
        int missed = 0;
        int mistaken = 0;
        int minute = 0;
        int z = 1;
        /** The newest stands first. */
        final int[] notes = new int[MOST_NOTES];
        int noteCount = 0;
        final Text[] texts = new Text[MOST_TEXTS];
        int textCount = 0;
        /** For each KEY the number of the TEXT that counts, or NONE. */
        final int[] lawNumbers = {NONE, NONE, NONE};

        Night() {
            for (int i = 0; i < MOST_CLOCKS; i++) {
                clocks[i] = new Clock();
            }
        }

        void take(Night other) {
            for (int i = 0; i < MOST_CLOCKS; i++) {
                clocks[i].take(other.clocks[i]);
            }
            clockCount = other.clockCount;
            ear = other.ear;
            noise = other.noise;
            heard = other.heard;
            missed = other.missed;
            mistaken = other.mistaken;
            minute = other.minute;
            z = other.z;
            System.arraycopy(other.notes, 0, notes, 0, MOST_NOTES);
            noteCount = other.noteCount;
            // TEXTS never change, so both nights may share them.
            for (int i = 0; i < MOST_TEXTS; i++) {
                texts[i] = other.texts[i];
            }
            textCount = other.textCount;
            System.arraycopy(other.lawNumbers, 0, lawNumbers, 0, KEYS);
        }

        boolean hasClock(int clock) {
            return within(clock, clockCount);
        }

        void addClock(int kind, int off, int tone) {
            if (clockCount >= MOST_CLOCKS) {
                return;
            }
            Clock it = clocks[clockCount];
            it.kind = kind;
            it.off = off;
            it.tone = tone;
            clockCount++;
        }

        int draw() {
            z = z * 1103515245 + 12345;
            return z >>> 8;
        }

        int timeNow() {
            return minute % TIMES;
        }

        int bedCount(int what) {
            switch (what) {
                case 0: return heard;
                case 1: return missed;
                case 2: return mistaken;
                default: return BAD;
            }
        }

        Text textAt(int number) {
            return number >= 0 && number < textCount ? texts[number] : null;
        }

        /** The TEXT that counts for a KEY, or null. */
        Text law(int key) {
            return within(key, KEYS) ? textAt(lawNumbers[key]) : null;
        }

        void addText(Text it) {
            if (textCount < MOST_TEXTS && within(it.key, KEYS)) {
                texts[textCount] = it;
                lawNumbers[it.key] = textCount;
                textCount++;
            }
        }

        /** OFF stands by itself, since RIGHT asks for others than the CLOCK has. */
        int againMinute(Clock it, int off, int h) {
            Text law = law(AGAIN);
            return law == null ? PLAIN_AGAIN : held(law.value(off, it.tone, h), FIRST_AGAIN, LAST_AGAIN);
        }

        int strokesAt(Clock it, int time) {
            int own = Math.floorMod(time - it.off, TIMES);
            int h = own < HOUR ? HOURS : own / HOUR;
            int past = own % HOUR;
            boolean asksAgain = isUnder(it.kind, TWICE) && past >= FIRST_AGAIN && past <= LAST_AGAIN;
            int again = asksAgain ? againMinute(it, it.off, h) : FIRST_AGAIN;
            return strokesWithin(it.kind, h, past, again);
        }

        int strokesOfAllTimes(Clock it) {
            int sum = 0;
            for (int time = 0; time < TIMES; time++) {
                sum += strokesAt(it, time);
            }
            return sum;
        }

        int totalAt(int time) {
            int sum = 0;
            for (int c = 0; c < clockCount; c++) {
                sum += strokesAt(clocks[c], time);
            }
            return sum;
        }

        void passMinutes(int n) {
            for (int i = 0; i < n; i++) {
                hearMinute(totalAt(timeNow()));
            }
        }

        /** A draw is made for each stroke, whichever CLOCK strikes it: so TOTAL is enough. */
        private void hearMinute(int struck) {
            int taken = 0;
            for (int i = 0; i < struck; i++) {
                if (draw() % 100 < ear) {
                    taken++;
                }
            }
            heard += taken;
            missed += struck - taken;
            if (draw() % 100 < noise) {
                mistaken++;
                taken++;
            }
            System.arraycopy(notes, 0, notes, 1, MOST_NOTES - 1);
            notes[0] = taken;
            noteCount = Math.min(MOST_NOTES, noteCount + 1);
            minute++;
        }

        /** Whether a NOTE can stand for a minute with so many strokes in all. */
        boolean allows(int taken, int struck) {
            int most = noise > 0 ? struck + 1 : struck;
            return taken <= most && (ear < 100 || taken >= struck);
        }
    }

    /** TOTALS of all TIMES, and which of these FIT. */
    private static final class Guess {
        final int[] totals = new int[TIMES];
        /** For each TOTAL the NOTES that allow it, as bits: the oldest NOTE is bit 0. */
        private final int[] allowed = new int[MOST_STROKES + 1];
        private int noteCount = 0;
        int found = 0;
        int hours = 0;
        int first = NONE;

        void useClocks(Night night) {
            Arrays.fill(totals, 0);
            for (int c = 0; c < night.clockCount; c++) {
                Clock it = night.clocks[c];
                addStrokes(night, it, it.off, 1);
            }
        }

        /** Only the minutes are gone through at which some KIND may strike: all others stay silent. */
        void addStrokes(Night night, Clock it, int off, int sign) {
            boolean twice = isUnder(it.kind, TWICE);
            for (int h = 1; h <= HOURS; h++) {
                int again = twice ? night.againMinute(it, off, h) : FIRST_AGAIN;
                int start = h * HOUR + off;
                for (int minute = 0; minute < HOUR; minute += 15) {
                    addAt(start + minute, sign * strokesWithin(it.kind, h, minute, again));
                }
                addAt(start + again, sign * strokesWithin(it.kind, h, again, again));
            }
        }

        private void addAt(int time, int strokes) {
            totals[Math.floorMod(time, TIMES)] += strokes;
        }

        void useNotes(Night night) {
            noteCount = night.noteCount;
            for (int struck = 0; struck <= MOST_STROKES; struck++) {
                int bits = 0;
                for (int k = 0; k < noteCount; k++) {
                    if (night.allows(night.notes[k], struck)) {
                        bits |= 1 << noteCount - 1 - k;
                    }
                }
                allowed[struck] = bits;
            }
        }

        /**
         * One walk over all TIMES instead of one for each NOTE: bit b of fit tells that the oldest
         * b + 1 NOTES fit the minutes up to here.
         */
        void findTimes() {
            found = 0;
            hours = 0;
            first = NONE;
            int whole = noteCount == 0 ? 0 : 1 << noteCount - 1;
            int fit = 0;
            for (int t = -MOST_NOTES; t < TIMES; t++) {
                int struck = totals[t < 0 ? t + TIMES : t];
                fit = (fit << 1 | 1) & allowed[held(struck, 0, MOST_STROKES)];
                if (t >= 0 && (fit & whole) == whole) {
                    found++;
                    hours |= 1 << t / HOUR;
                    first = first == NONE ? t : first;
                }
            }
        }

        boolean isSure() {
            return Integer.bitCount(hours) == 1;
        }

        int difference(Sheet row, int time) {
            int sum = 0;
            for (int k = 0; k < row.size; k++) {
                if (row.isNumber(k)) {
                    sum += Math.abs(totals[(time + k) % TIMES] - row.places[k]);
                }
            }
            return sum;
        }
    }

    /** TIMES in groups: those of a group have TOTALS alike at them and at some minutes ahead of them. */
    private static final class Windows {
        private final int[] group = new int[TIMES];
        /** For each group that is being split the newest of its parts, -1 for none. */
        private final int[] newestPart = new int[TIMES];
        private final int[] olderPart = new int[TIMES];
        private final int[] partTotal = new int[TIMES];
        private final int[] partHour = new int[TIMES];
        private int partCount = 0;

        int shortest(int[] totals) {
            Arrays.fill(group, 0);
            for (int n = 1; n <= HOUR; n++) {
                if (!splitLeavesDoubt(totals, n - 1)) {
                    return n;
                }
            }
            return NONE;
        }

        /** Splits the groups by TOTALS so many minutes ahead; whether a part still has unlike hours. */
        private boolean splitLeavesDoubt(int[] totals, int ahead) {
            Arrays.fill(newestPart, -1);
            partCount = 0;
            boolean doubt = false;
            for (int t = 0; t < TIMES; t++) {
                int part = partOf(group[t], totals[Math.floorMod(t - ahead, TIMES)], t / HOUR);
                doubt = doubt || partHour[part] != t / HOUR;
                group[t] = part;
            }
            return doubt;
        }

        private int partOf(int whole, int total, int hour) {
            int part = newestPart[whole];
            for (int steps = 0; steps < TIMES && part >= 0; steps++) {
                if (partTotal[part] == total) {
                    return part;
                }
                part = olderPart[part];
            }
            int made = Math.min(partCount, TIMES - 1);
            partTotal[made] = total;
            partHour[made] = hour;
            olderPart[made] = newestPart[whole];
            newestPart[whole] = made;
            partCount++;
            return made;
        }
    }

    /** A law, as a row of steps for a stack: numbers, names (below 0) and signs (below these, negated). */
    private static final class Text {
        final int key;
        final int pieces;
        private final int[] steps;
        private final int[] stack;

        Text(int key, int pieces, int[] steps) {
            this.key = key;
            this.pieces = pieces;
            this.steps = steps;
            this.stack = new int[steps.length + 1];
        }

        int value(int first, int second, int third) {
            int top = 0;
            for (int i = 0; i < steps.length && top < stack.length; i++) {
                int step = steps[i];
                if (step >= 0) {
                    stack[top] = step;
                    top++;
                } else if (step >= -3) {
                    stack[top] = step == -1 ? first : step == -2 ? second : third;
                    top++;
                } else if (step == -'!' && top >= 1) {
                    stack[top - 1] = stack[top - 1] == 0 ? 1 : 0;
                } else if (top >= 2) {
                    top--;
                    stack[top - 1] = joined(-step, stack[top - 1], stack[top]);
                }
            }
            return stack[0];
        }

        private static int joined(int sign, int a, int b) {
            switch (sign) {
                case '|': return a != 0 || b != 0 ? 1 : 0;
                case '&': return a != 0 && b != 0 ? 1 : 0;
                case '<': return a < b ? 1 : 0;
                case '=': return a == b ? 1 : 0;
                case '>': return a > b ? 1 : 0;
                case '+': return a + b;
                case '-': return a - b;
                case '*': return a * b;
                default: return b == 0 ? 0 : a / b;
            }
        }
    }

    /** Reads THE TAPE; where it stops short, start is the FAULT. */
    private static final class TextReader {
        private static final int END = 0;
        private static final int NUMBER = 1;
        private static final int LETTERS = 2;
        private static final int ONE_SIGN = 3;
        /** A word with which no TEXT goes on, wherever it stands. */
        private static final int NO_WORD = 4;
        private static final int MOST_DIGITS = 4;
        private static final int MOST_OPEN = 8;

        private byte[] bytes = new byte[0];
        private int length = 0;
        /** The word or sign that is looked at: its sort, its first byte, the place behind it. */
        private int sort = END;
        int start = 0;
        private int end = 0;
        private int key = AGAIN;
        private int pieces = 0;
        private final int[] steps = new int[MOST_BYTES];
        private int stepCount = 0;

        boolean readText(byte[] from, int many) {
            bytes = from;
            length = Math.min(many, from.length);
            sort = END;
            end = 0;
            pieces = 0;
            stepCount = 0;
            advance();
            if (!readKey()) {
                return false;
            }
            return readOr(0, 0) && sort == END;
        }

        Text newText() {
            return new Text(key, pieces, Arrays.copyOf(steps, stepCount));
        }

        private void advance() {
            boolean behindWord = sort == NUMBER || sort == LETTERS;
            start = end;
            while (start < length && bytes[start] == ' ') {
                start++;
            }
            boolean tight = behindWord && start == end;
            end = start;
            if (start >= length) {
                sort = END;
            } else if (isLetter(bytes[start])) {
                while (end < length && isLetter(bytes[end])) {
                    end++;
                }
                sort = tight ? NO_WORD : LETTERS;
            } else if (isDigit(bytes[start])) {
                while (end < length && isDigit(bytes[end])) {
                    end++;
                }
                sort = tight || end - start > MOST_DIGITS ? NO_WORD : NUMBER;
            } else {
                end++;
                sort = ONE_SIGN;
            }
        }

        private static boolean isLetter(byte it) {
            return it >= 'a' && it <= 'z';
        }

        private static boolean isDigit(byte it) {
            return it >= '0' && it <= '9';
        }

        private boolean isSign(char sign) {
            return sort == ONE_SIGN && bytes[start] == sign;
        }

        /** The sign that is looked at, if it is one of these; else 0. */
        private int signAmong(String signs) {
            for (int i = 0; i < signs.length(); i++) {
                if (isSign(signs.charAt(i))) {
                    return signs.charAt(i);
                }
            }
            return 0;
        }

        private boolean isWord(String word) {
            if (sort != LETTERS || end - start != word.length()) {
                return false;
            }
            for (int i = 0; i < word.length(); i++) {
                if (bytes[start + i] != word.charAt(i)) {
                    return false;
                }
            }
            return true;
        }

        private boolean readKey() {
            if (isWord("again")) {
                key = AGAIN;
            } else if (isWord("fee")) {
                key = FEE;
            } else if (isWord("fine")) {
                key = FINE;
            } else {
                return false;
            }
            advance();
            return true;
        }

        private void addStep(int step) {
            if (stepCount < steps.length) {
                steps[stepCount] = step;
                stepCount++;
            }
        }

        private boolean readOr(int brackets, int nots) {
            boolean good = readAnd(brackets, nots);
            for (int i = 0; i < MOST_BYTES && good && isSign('|'); i++) {
                advance();
                good = readAnd(brackets, nots);
                addStep(-'|');
            }
            return good;
        }

        private boolean readAnd(int brackets, int nots) {
            boolean good = readTest(brackets, nots);
            for (int i = 0; i < MOST_BYTES && good && isSign('&'); i++) {
                advance();
                good = readTest(brackets, nots);
                addStep(-'&');
            }
            return good;
        }

        private boolean readTest(int brackets, int nots) {
            if (!readSum(brackets, nots)) {
                return false;
            }
            int sign = signAmong("<=>");
            if (sign == 0) {
                return true;
            }
            advance();
            boolean good = readSum(brackets, nots);
            addStep(-sign);
            return good;
        }

        private boolean readSum(int brackets, int nots) {
            boolean good = readTerm(brackets, nots);
            int sign = signAmong("+-");
            for (int i = 0; i < MOST_BYTES && good && sign != 0; i++) {
                advance();
                good = readTerm(brackets, nots);
                addStep(-sign);
                sign = signAmong("+-");
            }
            return good;
        }

        private boolean readTerm(int brackets, int nots) {
            boolean good = readPiece(brackets, nots);
            int sign = signAmong("*/");
            for (int i = 0; i < MOST_BYTES && good && sign != 0; i++) {
                advance();
                good = readPiece(brackets, nots);
                addStep(-sign);
                sign = signAmong("*/");
            }
            return good;
        }

        private boolean readPiece(int brackets, int nots) {
            if (sort == NUMBER) {
                return readNumber();
            }
            if (sort == LETTERS) {
                return readName();
            }
            if (isSign('!') && nots < MOST_OPEN) {
                advance();
                boolean good = readPiece(brackets, nots + 1);
                addStep(-'!');
                return good;
            }
            if (isSign('(') && brackets < MOST_OPEN) {
                advance();
                if (!readOr(brackets + 1, nots) || !isSign(')')) {
                    return false;
                }
                advance();
                return true;
            }
            return false;
        }

        private boolean readNumber() {
            int number = 0;
            for (int i = start; i < end; i++) {
                number = number * 10 + bytes[i] - '0';
            }
            addStep(number);
            pieces++;
            advance();
            return true;
        }

        private boolean readName() {
            String names = key == AGAIN ? "oth" : key == FEE ? "em" : "ot";
            int name = end - start == 1 ? names.indexOf((char) bytes[start]) : -1;
            if (name < 0) {
                return false;
            }
            addStep(-1 - name);
            pieces++;
            advance();
            return true;
        }
    }

    private static final class Sheet {
        int sort = MISSING;
        int size = 0;
        /** NO NUMBER is kept as NONE, which lies outside of what either sort can hold. */
        final int[] places = new int[MOST_PLACES];

        void become(int newSort, int newSize) {
            sort = newSort;
            size = held(newSize, 0, MOST_PLACES);
            Arrays.fill(places, 0);
        }

        void take(Sheet other) {
            sort = other.sort;
            size = other.size;
            System.arraycopy(other.places, 0, places, 0, MOST_PLACES);
        }

        boolean isNumber(int place) {
            return within(place, size) && places[place] != NONE;
        }

        /** Whether many places stand from place on; a run of none may begin behind the last one. */
        boolean hasRun(int place, int many) {
            return place >= 0 && many >= 0 && place <= size && many <= size - place;
        }
    }

    private static final class Slot {
        int holds = HOLDS_NOTHING;
        final Clock clock = new Clock();
        final Sheet sheet = new Sheet();
        int number = 0;
    }
}
