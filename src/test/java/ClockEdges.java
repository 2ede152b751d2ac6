/** Edges of promises 1 to 11, and of what the document's first term says of clocks. */
final class ClockEdges {
    private static final int BAD = StrokesHeard.BAD, NO = StrokesHeard.NO, FULL = StrokesHeard.FULL;
    private static final int NONE = StrokesHeard.NONE, NOTHING = StrokesHeard.NOTHING, KIND = StrokesHeard.KIND;

    static void all(Edges e) {
        newObject(e);
        clock(e);
        told(e);
        worth(e);
        as(e);
        turns(e);
        set(e);
        strokesBounds(e);
        strokesAtTheHour(e);
        strokesWithinTheHour(e);
        strokesAgain(e);
        total(e);
        ear(e);
        deal(e);
        seed(e);
    }

    private static void newObject(Edges e) {
        StrokesHeard x = new StrokesHeard();
        e.promise(1, "no CLOCKS");
        e.is("how many", x.count(0), 0);
        e.is("told of the first", x.told(0, 0), BAD);
        e.promise(1, "EAR 0 .. 100 (100 at first)");
        e.is("EAR", x.count(2), 100);
        e.promise(1, "NOISE 0 .. 100 (0)");
        e.is("NOISE", x.count(3), 0);
        e.promise(1, "HEARD, MISSED, MISTAKEN are 0 at first");
        for (int what = 0; what < 3; what++) e.is("bed " + what, x.bed(what), 0);
        e.promise(1, "THE MINUTE is 0 at first");
        e.is("THE MINUTE", x.count(1), 0);
        e.promise(1, "z is told (1 at first)");
        e.is("z", x.count(7), 1);
        e.promise(1, "SHEETS 0 .. 3 are .. MISSING (at first)");
        for (int sheet = 0; sheet < 4; sheet++) e.is("sheet " + sheet, x.mark(sheet, 0, 0), NOTHING);
        e.promise(1, "SLOTS 0 .. 4 each hold nothing (at first)");
        for (int slot = 0; slot < 5; slot++) e.is("slot " + slot, x.item(slot, 0), NOTHING);
        for (int slot = 0; slot < 5; slot++) e.is("slot " + slot + " held", x.lay(slot, 0, 0), 0);
        e.promise(1, "no NOTES, TEXTS, bytes, numbers that wait");
        e.is("NOTES", x.bed(3), 0);
        e.is("the newest NOTE", x.note(0), NONE);
        for (int what = 4; what < 7; what++) e.is("count " + what, x.count(what), 0);
        for (int key = 0; key < 3; key++) e.is("why " + key, x.why(key), NONE);
        e.promise(1, "no IMAGE");
        e.is("back", x.back(), NO);
        e.is("check", x.check(1), NO);
        e.promise(1, "a new object has nothing of another one");
        Edges.made(Edges::rich);
        e.alike("two new ones", new StrokesHeard(), x);
        e.promise(1, "An object is used for at most 512 calls: the last one");
        StrokesHeard used = Edges.one(0, 0, 0);
        for (int call = 2; call < 510; call++) used.seed(call);
        e.is("the 510th", used.minutes(1), 12);
        e.is("the 511th", used.note(0), 12);
        e.is("the 512th", used.may(3), 1);
    }

    private static void clock(Edges e) {
        e.promise(2, "CLOCKS, 6 at most, numbered from 0");
        StrokesHeard x = new StrokesHeard();
        for (int i = 0; i < 6; i++) e.is("clock " + i, x.clock(i, i, i), i);
        e.refused("the seventh", Edges::sixClocks, y -> y.clock(0, 0, 0), FULL);
        e.promise(2, "KINDS 0 .. 5");
        e.is("the first", Edges.one(0, 1, 1).told(0, 0), 0);
        e.is("the last", Edges.one(5, 1, 1).told(0, 0), 5);
        e.outside("kind", 0, 5, (y, v) -> y.clock(v, 0, 0), BAD);
        e.promise(2, "OFF 0 .. 59");
        e.is("least", Edges.one(0, 0, 1).told(0, 1), 0);
        e.is("greatest", Edges.one(0, 59, 1).told(0, 1), 59);
        e.outside("off", 0, 59, (y, v) -> y.clock(0, v, 0), BAD);
        e.promise(2, "TONE 0 .. 9");
        e.is("least", Edges.one(0, 1, 0).told(0, 2), 0);
        e.is("greatest", Edges.one(0, 1, 9).told(0, 2), 9);
        e.outside("tone", 0, 9, (y, v) -> y.clock(0, 0, v), BAD);
        e.promise(2, "BAD; FULL: of several the one that stands first");
        e.refused("kind with six", Edges::sixClocks, y -> y.clock(6, 0, 0), BAD);
        e.refused("off with six", Edges::sixClocks, y -> y.clock(0, 60, 0), BAD);
        e.refused("tone with six", Edges::sixClocks, y -> y.clock(0, 0, 10), BAD);
    }

    private static void told(Edges e) {
        e.promise(3, "Of a CLOCK .. BAD");
        StrokesHeard x = Edges.made(Edges::sixClocks);
        e.is("the first", x.told(0, 0), 3);
        e.is("the sixth", x.told(5, 1), 2);
        e.outside("clock", 0, 2, (y, v) -> y.told(v, 0), BAD);
        e.refused("of none", y -> { }, y -> y.told(0, 0), BAD);
        e.promise(3, "what 0 .. 5");
        e.is("the first", x.told(1, 0), 2);
        e.is("the last", x.told(1, 5), 1);
        e.outside("what", 0, 5, (y, v) -> y.told(0, v), BAD);
        e.promise(3, "STROKES at THE TIME, the rest of THE MINUTE by 720");
        StrokesHeard late = Edges.one(0, 0, 0);
        e.is("at 0", late.told(0, 3), 12);
        Edges.until(late, 660);
        e.is("at 660", late.told(0, 3), 11);
        Edges.until(late, 719);
        e.is("at 719", late.told(0, 3), 0);
        Edges.until(late, 720);
        e.is("at 720", late.told(0, 3), 12);
        Edges.until(late, 780);
        e.is("at 780", late.told(0, 3), 1);
        e.promise(3, "STROKES at all TIMES, together");
        int[] sums = {78, 78 + 12 * 6, 2 * 78, 78 + 12 * 4 + 12 * 6, 2 * 34, 78 + 12};
        for (int kind = 0; kind < 6; kind++) {
            e.is("of kind " + kind + ", in time", Edges.one(kind, 0, 0).told(0, 4), sums[kind]);
            e.is("of kind " + kind + ", round the half day", Edges.one(kind, 59, 0).told(0, 4), sums[kind]);
        }
    }

    private static void worth(Edges e) {
        int[] inTime = {0, 4, 60, 8, 55, 2};
        int[] late = {59, 63, 1, 126, -4, 2};
        for (int kind = 0; kind < 6; kind++) {
            e.promise(3, "WORTH of kind " + kind);
            e.is("with the least OFF", Edges.one(kind, 0, 7).told(0, 5), inTime[kind]);
            e.is("with the greatest OFF", Edges.one(kind, 59, 7).told(0, 5), late[kind]);
        }
    }

    private static void as(Edges e) {
        String[] under = {"0", "01", "02", "013", "024", "05"};
        for (int kind = 0; kind < 6; kind++) {
            e.promise(4, "KIND: it is not of that KIND, nor of one under it, of kind " + kind);
            for (int wanted = 0; wanted < 6; wanted++) {
                boolean is = under[kind].indexOf('0' + wanted) >= 0;
                e.is("as " + wanted, Edges.one(kind, 3, 8).as(0, wanted), is ? 8 : KIND);
            }
        }
        e.promise(4, "KIND, and it changes nothing");
        e.refused("a tune as twice", x -> x.as(0, 2), KIND);
        e.promise(4, "TONE");
        e.is("least", Edges.one(0, 3, 0).as(0, 0), 0);
        e.is("greatest", Edges.one(0, 3, 9).as(0, 0), 9);
        e.promise(4, "BAD: clock");
        e.outside("clock", 0, 2, (x, v) -> x.as(v, 0), BAD);
        e.promise(4, "BAD: kind");
        e.outside("kind", 0, 5, (x, v) -> x.as(0, v), BAD);
    }

    private static void turns(Edges e) {
        e.promise(5, "another KIND: what it was");
        StrokesHeard x = Edges.one(3, 58, 9);
        e.is("to the last", x.turns(0, 5), 3);
        e.is("to the first", x.turns(0, 0), 5);
        e.is("to the same", x.turns(0, 0), 0);
        e.is("OFF stays", x.told(0, 1), 58);
        e.is("TONE stays", x.told(0, 2), 9);
        e.promise(5, "BAD: no such CLOCK");
        e.outside("clock", 0, 2, (y, v) -> y.turns(v, 0), BAD);
        e.promise(5, "BAD: no such KIND");
        e.outside("kind", 0, 5, (y, v) -> y.turns(0, v), BAD);
    }

    private static void set(Edges e) {
        e.promise(6, "OFF becomes v: 0 .. 59");
        StrokesHeard x = Edges.one(0, 30, 5);
        e.is("greatest", x.set(0, 1, 59), 30);
        e.is("least", x.set(0, 1, 0), 59);
        e.is("it is", x.told(0, 1), 0);
        e.is("TONE stays", x.told(0, 2), 5);
        e.outside("off", 0, 59, (y, v) -> y.set(0, 1, v), BAD);
        e.promise(6, "TONE becomes v: 0 .. 9");
        e.is("greatest", x.set(0, 2, 9), 5);
        e.is("least", x.set(0, 2, 0), 9);
        e.is("it is", x.told(0, 2), 0);
        e.is("OFF stays", x.told(0, 1), 0);
        e.outside("tone", 0, 9, (y, v) -> y.set(0, 2, v), BAD);
        e.promise(6, "what 1, 2");
        e.outside("what", 1, 2, (y, v) -> y.set(0, v, 1), BAD);
        e.promise(6, "BAD: no such CLOCK");
        e.outside("clock", 0, 2, (y, v) -> y.set(v, 1, 1), BAD);
    }

    private static void strokesBounds(Edges e) {
        e.promise(7, "TIMES are 0 .. 719");
        StrokesHeard x = Edges.one(0, 59, 0);
        e.is("the first", x.strokes(0, 0), 0);
        e.is("the last", x.strokes(0, 719), 11);
        e.outside("time", 0, 719, (y, v) -> y.strokes(0, v), BAD);
        e.promise(7, "BAD: no such CLOCK");
        e.outside("clock", 0, 2, (y, v) -> y.strokes(v, 0), BAD);
        e.promise(7, "Its own time is the TIME less OFF, round by 720");
        e.is("a minute too soon", x.strokes(0, 58), 0);
        e.is("twelve, late", x.strokes(0, 59), 12);
        e.is("a minute too late", x.strokes(0, 60), 0);
        e.is("one, late", x.strokes(0, 119), 1);
        StrokesHeard little = Edges.one(0, 1, 0);
        e.is("late by one: eleven", little.strokes(0, 661), 11);
        e.is("late by one: not yet twelve", little.strokes(0, 0), 0);
        e.is("late by one: twelve", little.strokes(0, 1), 12);
        StrokesHeard quarter = Edges.one(1, 46, 0);
        e.is("three quarters, round", quarter.strokes(0, 31), 3);
        e.is("the same quarter of another hour", quarter.strokes(0, 31 + 660), 3);
    }

    private static void strokesAtTheHour(Edges e) {
        e.promise(7, "its hour h .. 12 for 0");
        for (int hour = 0; hour < 12; hour++) {
            int h = hour == 0 ? 12 : hour;
            for (int kind : new int[] {0, 1, 2, 5}) {
                e.is("kind " + kind + " at " + h, Edges.one(kind, 0, 0).strokes(0, 60 * hour), h);
            }
        }
        e.promise(7, "TUNE: as QUARTERS, and 4");
        e.is("at 12", Edges.one(3, 0, 0).strokes(0, 0), 16);
        e.is("at 1", Edges.one(3, 0, 0).strokes(0, 60), 5);
        e.is("at 11", Edges.one(3, 0, 0).strokes(0, 660), 15);
        e.promise(7, "SIGN: by 5 (cut), and its rest by 5, together");
        int[] sign = {4, 1, 2, 3, 4, 1, 2, 3, 4, 5, 2, 3};
        for (int hour = 0; hour < 12; hour++) e.is("at " + hour, Edges.one(4, 0, 0).strokes(0, 60 * hour), sign[hour]);
    }

    /** Every minute of the hour of seven that is not the full one, of every kind. */
    private static void strokesWithinTheHour(Edges e) {
        int[][] struck = new int[6][60];
        struck[1][15] = struck[3][15] = 1;
        struck[1][30] = struck[3][30] = 2;
        struck[1][45] = struck[3][45] = 3;
        struck[2][2] = 7;
        struck[4][2] = 3;
        struck[5][30] = 1;
        String[] words = {"CLOCK: 0", "QUARTERS: 1, 2, 3 at 15, 30, 45; else as CLOCK", "TWICE: at .. (without a TEXT: 2)",
            "TUNE: as QUARTERS, which is above it", "SIGN: as TWICE, as often as it strikes at minute 0", "CUCKOO: 1 at 30; else as CLOCK"};
        for (int kind = 0; kind < 6; kind++) {
            e.promise(7, words[kind]);
            StrokesHeard x = Edges.one(kind, 0, 0);
            for (int minute = 1; minute < 60; minute++) {
                e.is("at minute " + minute, x.strokes(0, 420 + minute), struck[kind][minute]);
            }
        }
    }

    private static void againAt(Edges e, String law, int minute) {
        StrokesHeard x = Edges.one(2, 0, 9);
        x.clock(4, 0, 9);
        e.is("reading " + law, Due.read(x, "again " + law), 0);
        for (int m = 1; m < 60; m++) {
            e.is(law + ": TWICE at minute " + m, x.strokes(0, 540 + m), m == minute ? 9 : 0);
            e.is(law + ": SIGN at minute " + m, x.strokes(1, 540 + m), m == minute ? 5 : 0);
        }
        e.is(law + ": the full hour stays", x.strokes(0, 540), 9);
    }

    private static void strokesAgain(Edges e) {
        e.promise(7, "at the minute that again gives, held within 1 .. 14: from below");
        againAt(e, "2", 2);
        againAt(e, "1", 1);
        againAt(e, "0", 1);
        againAt(e, "0-1", 1);
        againAt(e, "8*8*8*8*8*8*8*8*8*8*2", 1);
        e.promise(7, "at the minute that again gives, held within 1 .. 14: from above");
        againAt(e, "13", 13);
        againAt(e, "14", 14);
        againAt(e, "15", 14);
        againAt(e, "60", 14);
        againAt(e, "8*8*8*8*8*8*8*8*8*8*2-1", 14);
        e.promise(7, "h that hour, 12 for 0");
        StrokesHeard x = Edges.one(2, 0, 0);
        Due.read(x, "again h");
        for (int hour = 0; hour < 12; hour++) {
            int h = hour == 0 ? 12 : hour;
            e.is("of " + h, x.strokes(0, 60 * hour + h), h);
        }
        e.promise(7, "h that hour, which is the clock's own");
        x.set(0, 1, 59);
        e.is("eleven, round", x.strokes(0, 10), 11);
        e.is("twelve", x.strokes(0, 59 + 12), 12);
        e.promise(7, "again: for TWICE and those under it alone");
        StrokesHeard others = Edges.one(0, 0, 0);
        for (int kind : new int[] {1, 3, 5}) others.clock(kind, 0, 0);
        Due.read(others, "again 7");
        for (int c = 0; c < 4; c++) e.is("clock " + c, others.strokes(c, 7), 0);
    }

    private static void total(Edges e) {
        e.promise(8, "TIMES are 0 .. 719");
        StrokesHeard x = Edges.one(0, 59, 0);
        e.is("the first", Edges.one(0, 0, 0).total(0), 12);
        e.is("the last", x.total(719), 11);
        e.outside("time", 0, 719, (y, v) -> y.total(v), BAD);
        e.promise(8, "STROKES of all CLOCKS then, together");
        e.is("of none", new StrokesHeard().total(0), 0);
        StrokesHeard tunes = new StrokesHeard();
        for (int i = 0; i < 6; i++) tunes.clock(3, 0, 0);
        e.is("of six", tunes.total(0), 96);
        e.is("of six in silence", tunes.total(1), 0);
    }

    private static void ear(Edges e) {
        e.promise(9, "EAR 0 .. 100");
        StrokesHeard x = new StrokesHeard();
        e.is("least", x.ear(0, 0), 100);
        e.is("greatest", x.ear(0, 100), 0);
        e.is("it is", x.count(2), 100);
        e.is("NOISE stays", x.count(3), 0);
        e.outside("ear", 0, 100, (y, v) -> y.ear(0, v), BAD);
        e.promise(9, "NOISE 0 .. 100");
        e.is("greatest", x.ear(1, 100), 0);
        e.is("least", x.ear(1, 0), 100);
        e.is("it is", x.count(3), 0);
        e.is("EAR stays", x.count(2), 100);
        e.outside("noise", 0, 100, (y, v) -> y.ear(1, v), BAD);
        e.promise(9, "what 0, 1");
        e.outside("what", 0, 1, (y, v) -> y.ear(v, 50), BAD);
    }

    private static void deal(Edges e) {
        e.promise(10, "n (1 .. 6)");
        StrokesHeard one = new StrokesHeard();
        e.is("least", one.deal(1), 1);
        e.is("it came", one.count(0), 1);
        StrokesHeard six = new StrokesHeard();
        e.is("greatest", six.deal(6), 6);
        e.is("they came", six.count(0), 6);
        e.outside("n", 1, 6, (y, v) -> y.deal(v), BAD);
        e.promise(10, "as many as there is room for");
        StrokesHeard five = new StrokesHeard();
        for (int i = 0; i < 5; i++) five.clock(0, 0, 0);
        e.is("one has room", five.deal(6), 1);
        e.is("six", five.count(0), 6);
        e.promise(10, "no draws for others");
        e.is("three draws", five.count(7), Edges.nextZ(Edges.nextZ(Edges.nextZ(1))));
        e.is("none has room", five.deal(1), 0);
        StrokesHeard full = Edges.made(Edges::sixClocks);
        e.is("none of six", full.deal(6), 0);
        e.alike("nothing is drawn", full, Edges.made(Edges::sixClocks));
    }

    private static void seed(Edges e) {
        e.promise(11, "z becomes v: what it was");
        StrokesHeard x = new StrokesHeard();
        int before = 1;
        for (int v : new int[] {Integer.MIN_VALUE, Integer.MAX_VALUE, 0, -1, StrokesHeard.BAD}) {
            e.is("seed " + v, x.seed(v), before);
            e.is("z", x.count(7), v);
            before = v;
        }
        e.promise(11, "z * 1103515245 + 12345 (an int); it gives z >>> 8");
        for (int v : new int[] {Integer.MIN_VALUE, Integer.MAX_VALUE, 0, -1, 1, 1000003, -1000003}) {
            StrokesHeard y = new StrokesHeard();
            y.seed(v);
            y.deal(1);
            int second = Edges.nextZ(v);
            int third = Edges.nextZ(second);
            e.is("KIND by " + v, y.told(0, 0), Edges.given(v) % 6);
            e.is("OFF by " + v, y.told(0, 1), Edges.given(second) % 10);
            e.is("TONE by " + v, y.told(0, 2), Edges.given(third) % 10);
            e.is("z behind " + v, y.count(7), Edges.nextZ(third));
        }
    }
}
